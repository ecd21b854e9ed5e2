set_option maxHeartbeats 4000000 in
set_option maxRecDepth 100000 in
theorem c_X3_raised (l : Launch) (g : zG) (h0 : Nat) (a1 : Nat) (a2 : Nat) (a3 : Nat) (a4 : Nat) (f1 : Nat → Int32) (f2 : Nat → Int32) (f3 : Nat → Int32) (f4 : Nat → Int32) (we : Int32) (se : Int32) (v : Int32) (n : Int32) (hf1 : ∀ j, j < 32 → f1 j = -1) (hv : 0 ≤ v.toInt ∧ v.toInt ≤ 15) (hn : 0 ≤ n.toInt ∧ n.toInt ≤ 4) : Met l yX3_raised (zW yX3_raised cX3_raised 5 (some .int)) ({ frames := 1, cells := 0, slots := 0, locals := 22 }) (va_Pc [.ref h0, .int v, .int n] (zR g [(h0, .inr (3, [.int we, .ref a1, .ref a2, .ref a3, .ref a4, .int se])), (a1, .inl (g.2 0, 32, .inl f1)), (a2, .inl (g.2 0, 33, .inl f2)), (a3, .inl (g.2 0, 33, .inl f3)), (a4, .inl (g.2 0, 16, .inl f4))])) (vp_Si (fun r : Int32 => (r = v ∧ (n.toInt = 0)) ∨ (r = 32 ∧ (1 ≤ n.toInt)))) 0 0 (fun _ => False) := by
  refine Met.ofW (cc := cX3_raised) (maxL := 5) (ret := (some .int)) (by decide) rfl ?_
  intro p e s m args below meth c s₁ B hml hv
  obtain ⟨rfl, hP, hK, hN⟩ := hv
  have hx := B.exec
  have hb := B.bytes
  have hr := B.returns
  have hg := zW.law (atoms_spec (ws := (zW yX3_raised cX3_raised 5 (some .int))) B.pre)
  have hown : s.vm.findClass RX3 = some m.cls := findClass_of_methodNamed B.named
  have hlocks := B.notSynchronized
  have hl := lv_entry ([.ref h0, .int v, .int n]) (n := 5) (Nat.le_of_ble_eq_true rfl)
  rw [lg_entry_eq]
  generalize (lg_sl ([.ref h0, .int v, .int n]) ++ List.replicate (5 - (lg_sl ([.ref h0, .int v, .int n])).length) Slot.unset).toArray = ls at hl ⊢
  have hl : lv_has ls 5 [(0, .ref h0), (1, .int v), (2, .int n)] := hl
  refine lv_iload_n hx hb dX3_raised_0 rfl (lv_at hl 1 rfl) ?_
  refine lv_istore_n (lv' := [(3, .int v), (0, .ref h0), (1, .int v), (2, .int n)]) hx hb dX3_raised_1 rfl hl (by decide) rfl (fun ls hl => ?_)
  refine lv_iconst (v := 0) hx hb dX3_raised_2 (by decide) ?_
  refine lv_istore (lv' := [(4, .int 0), (3, .int v), (0, .ref h0), (1, .int v), (2, .int n)]) hx hb dX3_raised_3 hl (by decide) rfl (fun ls hl => ?_)
  refine lv_iload hx hb dX3_raised_5 (lv_at hl 0 rfl) ?_
  refine lv_iload_n hx hb dX3_raised_7 rfl (lv_at hl 4 rfl) ?_
  refine lv_icmp_ge (tgt := 49) hx hb dX3_raised_8 (by decide) (fun c1 => ?_) (fun c1 => ?_)
  · skip
    have c1 : n.toInt ≤ 0 := (z_le rfl (by decide : (0 : Int32).toInt = 0)).mp c1
    refine lv_iload_n hx hb dX3_raised_49 rfl (lv_at hl 1 rfl) ?_
    exact W.iret (v := v) hx hb hr (fun t ht hW => ⟨v, rfl, by first | exact Or.inl ⟨rfl, by omega⟩ | exact Or.inr ⟨rfl, by omega⟩, ht⟩) (fun q hq => by cases hq) dX3_raised_50
  · skip
    have c1 : ¬ (n.toInt ≤ 0) := fun q => c1 ((z_le rfl (by decide : (0 : Int32).toInt = 0)).mpr q)
    refine lv_iload_n hx hb dX3_raised_11 rfl (lv_at hl 1 rfl) ?_
    refine lv_iconst (v := 0) hx hb dX3_raised_12 (by decide) ?_
    refine lv_bipush (v := 31) hx hb dX3_raised_13 (by decide) ?_
    have hPc := hP.sub (ws' := []) [] rfl
    refine zc_i (va_runSN (As := [.int v, .int 0, .int 31]) (rest := []) ⟨hx, hb, hml, hown, hg⟩ (c_X8_within l g v (0 : Int32) (31 : Int32) ) ⟨va_cnB 3 hg (z_gN mm_409) rfl rfl rfl (hN.at 7 rfl) (hg _ mm_108) (by decide +kernel) ⟨Nat.le_of_ble_eq_true rfl, Nat.le_of_ble_eq_true rfl⟩, (hg _ mm_408), trivial⟩ (zR.pre [.int v, .int 0, .int 31] hPc hK hN) rfl rfl hl.1 rfl (lv_room (Nat.le_of_ble_eq_true rfl)) dX3_raised_15 ⟨Nat.le_of_ble_eq_true rfl, Nat.le_of_ble_eq_true rfl⟩) (fun r2 hr2 => ?_)
    rcases hr2 with hr2 | hr2
    · skip
      obtain ⟨rfl, h3, h4⟩ := hr2
      have h3 : (0 : Int) ≤ v.toInt := h3
      have h4 : v.toInt ≤ (31 : Int) := h4
      refine lv_if_eq (tgt := 49) hx hb dX3_raised_18 (by decide) (fun c5 => ?_) (fun c5 => ?_)
      · skip
        exact absurd c5 (by decide)
      · skip
        refine lv_aload_n hx hb dX3_raised_21 rfl (lv_at hl 2 rfl) ?_
        refine va_get (D := g.1) (ci := 3) (v := .ref a1) (C := RX3) (T := TX3) (N := 6) hx hb hg inG3 hown hK hP 0 rfl rfl 1 (by decide) (hg _ mm_317) (fun _ h9 => h9) rfl dX3_raised_22 ?_
        refine lv_iload_n hx hb dX3_raised_25 rfl (lv_at hl 1 rfl) ?_
        refine va_iald hx hb hK hP 1 0 rfl rfl (z_in rfl (by omega) (by omega)) dX3_raised_26 ?_
        refine lv_topi (fun x6 ex6 => ?_)
        have ex6 : x6 = f1 (Int32.toNatClampNeg v) := ex6.trans (congrArg f1 rfl)
        obtain rfl : x6 = (-1) := ex6.trans (hf1 _ (z_clt (rfl) (by omega) (by omega)))
        refine lv_iconst (v := (-1)) hx hb dX3_raised_27 (by decide) ?_
        refine lv_icmp_ne (tgt := 36) hx hb dX3_raised_28 (by decide) (fun c7 => ?_) (fun c7 => ?_)
        · skip
          exact absurd c7 (by decide)
        · skip
          refine lv_bipush (v := 32) hx hb dX3_raised_31 (by decide) ?_
          refine lv_goto (tgt := 42) hx hb dX3_raised_33 (by decide) ?_
          refine lv_istore_n (lv' := [(3, .int 32), (4, .int 0), (0, .ref h0), (1, .int v), (2, .int n)]) hx hb dX3_raised_42 rfl hl (by decide) rfl (fun ls hl => ?_)
          refine lv_iinc (v := 1) (lv' := [(4, .int 1), (3, .int 32), (0, .ref h0), (1, .int v), (2, .int n)]) hx hb dX3_raised_43 hl (k := 1) rfl (by decide) (by decide) rfl (fun ls hl => ?_)
          refine lv_goto (tgt := 5) hx hb dX3_raised_46 (by decide) ?_
          refine lv_iload hx hb dX3_raised_5 (lv_at hl 0 rfl) ?_
          refine lv_iload_n hx hb dX3_raised_7 rfl (lv_at hl 4 rfl) ?_
          refine lv_icmp_ge (tgt := 49) hx hb dX3_raised_8 (by decide) (fun c8 => ?_) (fun c8 => ?_)
          · skip
            have c8 : n.toInt ≤ 1 := (z_le rfl (by decide : (1 : Int32).toInt = 1)).mp c8
            refine lv_iload_n hx hb dX3_raised_49 rfl (lv_at hl 1 rfl) ?_
            exact W.iret (v := 32) hx hb hr (fun t ht hW => ⟨32, rfl, by first | exact Or.inl ⟨rfl, by omega⟩ | exact Or.inr ⟨rfl, by omega⟩, ht⟩) (fun q hq => by cases hq) dX3_raised_50
          · skip
            have c8 : ¬ (n.toInt ≤ 1) := fun q => c8 ((z_le rfl (by decide : (1 : Int32).toInt = 1)).mpr q)
            refine lv_iload_n hx hb dX3_raised_11 rfl (lv_at hl 1 rfl) ?_
            refine lv_iconst (v := 0) hx hb dX3_raised_12 (by decide) ?_
            refine lv_bipush (v := 31) hx hb dX3_raised_13 (by decide) ?_
            have hPc := hP.sub (ws' := []) [] rfl
            refine zc_i (va_runSN (As := [.int 32, .int 0, .int 31]) (rest := []) ⟨hx, hb, hml, hown, hg⟩ (c_X8_within l g (32 : Int32) (0 : Int32) (31 : Int32) ) ⟨va_cnB 3 hg (z_gN mm_409) rfl rfl rfl (hN.at 7 rfl) (hg _ mm_108) (by decide +kernel) ⟨Nat.le_of_ble_eq_true rfl, Nat.le_of_ble_eq_true rfl⟩, (hg _ mm_408), trivial⟩ (zR.pre [.int 32, .int 0, .int 31] hPc hK hN) rfl rfl hl.1 rfl (lv_room (Nat.le_of_ble_eq_true rfl)) dX3_raised_15 ⟨Nat.le_of_ble_eq_true rfl, Nat.le_of_ble_eq_true rfl⟩) (fun r9 hr9 => ?_)
            rcases hr9 with hr9 | hr9
            · skip
              obtain ⟨rfl, h10, h11⟩ := hr9
              have h10 : (0 : Int) ≤ (32 : Int) := h10
              have h11 : (32 : Int) ≤ (31 : Int) := h11
              exfalso
              omega
            · skip
              obtain ⟨rfl, h12⟩ := hr9
              have h12 : ¬ ((0 : Int) ≤ (32 : Int) ∧ (32 : Int) ≤ (31 : Int)) := h12
              refine lv_if_eq (tgt := 49) hx hb dX3_raised_18 (by decide) (fun c13 => ?_) (fun c13 => ?_)
              · skip
                refine lv_iload_n hx hb dX3_raised_49 rfl (lv_at hl 1 rfl) ?_
                exact W.iret (v := 32) hx hb hr (fun t ht hW => ⟨32, rfl, by first | exact Or.inl ⟨rfl, by omega⟩ | exact Or.inr ⟨rfl, by omega⟩, ht⟩) (fun q hq => by cases hq) dX3_raised_50
              · skip
                exact absurd c13 (by decide)
    · skip
      obtain ⟨rfl, h14⟩ := hr2
      have h14 : ¬ ((0 : Int) ≤ v.toInt ∧ v.toInt ≤ (31 : Int)) := h14
      exfalso
      omega

set_option maxHeartbeats 4000000 in
set_option maxRecDepth 100000 in
theorem c_X3_valuesBelow (l : Launch) (g : zG) (h0 : Nat) (a1 : Nat) (a2 : Nat) (a3 : Nat) (a4 : Nat) (f1 : Nat → Int32) (f2 : Nat → Int32) (f3 : Nat → Int32) (f4 : Nat → Int32) (we : Int32) (se : Int32) (nd : Int32) (hg1 : ∀ j, j < 16 → f2 j = 1) (hg2 : ∀ j, 16 ≤ j → j < 32 → f2 j = 0) (hg3 : f2 32 = 16) (hnd : 0 ≤ nd.toInt ∧ nd.toInt ≤ 32) : Met l yX3_valuesBelow (zW yX3_valuesBelow cX3_valuesBelow 2 (some .int)) ({ frames := 0, cells := 0, slots := 0, locals := 0 }) (va_Pc [.ref h0, .int nd] (zR g [(h0, .inr (3, [.int we, .ref a1, .ref a2, .ref a3, .ref a4, .int se])), (a1, .inl (g.2 0, 32, .inl f1)), (a2, .inl (g.2 0, 33, .inl f2)), (a3, .inl (g.2 0, 33, .inl f3)), (a4, .inl (g.2 0, 16, .inl f4))])) (vp_Si (fun r : Int32 => (r = 1 ∧ (nd.toInt < 16)) ∨ (r = 0 ∧ (16 ≤ nd.toInt) ∧ (nd.toInt < 32)) ∨ (r = 16 ∧ (nd.toInt = 32)))) 0 0 (fun _ => False) := by
  refine Met.ofW (cc := cX3_valuesBelow) (maxL := 2) (ret := (some .int)) (by decide) rfl ?_
  intro p e s m args below meth c s₁ B hml hv
  obtain ⟨rfl, hP, hK, hN⟩ := hv
  have hx := B.exec
  have hb := B.bytes
  have hr := B.returns
  have hg := zW.law (atoms_spec (ws := (zW yX3_valuesBelow cX3_valuesBelow 2 (some .int))) B.pre)
  have hown : s.vm.findClass RX3 = some m.cls := findClass_of_methodNamed B.named
  have hlocks := B.notSynchronized
  have hl := lv_entry ([.ref h0, .int nd]) (n := 2) (Nat.le_of_ble_eq_true rfl)
  rw [lg_entry_eq]
  generalize (lg_sl ([.ref h0, .int nd]) ++ List.replicate (2 - (lg_sl ([.ref h0, .int nd])).length) Slot.unset).toArray = ls at hl ⊢
  have hl : lv_has ls 2 [(0, .ref h0), (1, .int nd)] := hl
  refine lv_iload_n hx hb dX3_valuesBelow_0 rfl (lv_at hl 1 rfl) ?_
  refine lv_if_lt (tgt := 19) hx hb dX3_valuesBelow_1 (by decide) (fun c1 => ?_) (fun c1 => ?_)
  · skip
    have c1 : nd.toInt < 0 := (z_lt rfl (by decide : (0 : Int32).toInt = 0)).mp c1
    exfalso
    omega
  · skip
    have c1 : ¬ (nd.toInt < 0) := fun q => c1 ((z_lt rfl (by decide : (0 : Int32).toInt = 0)).mpr q)
    refine lv_iload_n hx hb dX3_valuesBelow_4 rfl (lv_at hl 1 rfl) ?_
    refine lv_bipush (v := 32) hx hb dX3_valuesBelow_5 (by decide) ?_
    refine lv_icmp_gt (tgt := 19) hx hb dX3_valuesBelow_7 (by decide) (fun c2 => ?_) (fun c2 => ?_)
    · skip
      have c2 : 32 < nd.toInt := (z_lt (by decide : (32 : Int32).toInt = 32) rfl).mp c2
      exfalso
      omega
    · skip
      have c2 : ¬ (32 < nd.toInt) := fun q => c2 ((z_lt (by decide : (32 : Int32).toInt = 32) rfl).mpr q)
      refine lv_aload_n hx hb dX3_valuesBelow_10 rfl (lv_at hl 0 rfl) ?_
      refine va_get (D := g.1) (ci := 3) (v := .ref a2) (C := RX3) (T := TX3) (N := 6) hx hb hg inG3 hown hK hP 0 rfl rfl 2 (by decide) (hg _ mm_318) (fun _ h9 => h9) rfl dX3_valuesBelow_11 ?_
      refine lv_iload_n hx hb dX3_valuesBelow_14 rfl (lv_at hl 1 rfl) ?_
      rcases (show nd.toInt < 16 ∨ (16 ≤ nd.toInt ∧ nd.toInt < 32) ∨ nd.toInt = 32 by omega) with hq | hq | hq
      · skip
        refine va_iald hx hb hK hP 2 0 rfl rfl (z_in rfl (by omega) (by omega)) dX3_valuesBelow_15 ?_
        refine lv_topi (fun x3 ex3 => ?_)
        have ex3 : x3 = f2 (Int32.toNatClampNeg nd) := ex3.trans (congrArg f2 rfl)
        obtain rfl : x3 = 1 := ex3.trans (hg1 _ (z_clt rfl (by omega) (by omega)))
        refine lv_goto (tgt := 20) hx hb dX3_valuesBelow_16 (by decide) ?_
        exact W.iret (v := 1) hx hb hr (fun t ht hW => ⟨1, rfl, by first | exact Or.inl ⟨rfl, by omega⟩ | exact Or.inr (Or.inl ⟨rfl, by omega, by omega⟩) | exact Or.inr (Or.inr ⟨rfl, by omega⟩), ht⟩) (fun q hq => by cases hq) dX3_valuesBelow_20
      · skip
        refine va_iald hx hb hK hP 2 0 rfl rfl (z_in rfl (by omega) (by omega)) dX3_valuesBelow_15 ?_
        refine lv_topi (fun x4 ex4 => ?_)
        have ex4 : x4 = f2 (Int32.toNatClampNeg nd) := ex4.trans (congrArg f2 rfl)
        obtain rfl : x4 = 0 := ex4.trans (hg2 _ (z_clg rfl (by omega)) (z_clt rfl (by omega) (by omega)))
        refine lv_goto (tgt := 20) hx hb dX3_valuesBelow_16 (by decide) ?_
        exact W.iret (v := 0) hx hb hr (fun t ht hW => ⟨0, rfl, by first | exact Or.inl ⟨rfl, by omega⟩ | exact Or.inr (Or.inl ⟨rfl, by omega, by omega⟩) | exact Or.inr (Or.inr ⟨rfl, by omega⟩), ht⟩) (fun q hq => by cases hq) dX3_valuesBelow_20
      · skip
        refine va_iald hx hb hK hP 2 0 rfl rfl (z_in rfl (by omega) (by omega)) dX3_valuesBelow_15 ?_
        refine lv_topi (fun x5 ex5 => ?_)
        have ex5 : x5 = f2 (Int32.toNatClampNeg nd) := ex5.trans (congrArg f2 rfl)
        obtain rfl : x5 = 16 := ex5.trans (by rw [z_cl (k := 32) hq]; exact hg3)
        refine lv_goto (tgt := 20) hx hb dX3_valuesBelow_16 (by decide) ?_
        exact W.iret (v := 16) hx hb hr (fun t ht hW => ⟨16, rfl, by first | exact Or.inl ⟨rfl, by omega⟩ | exact Or.inr (Or.inl ⟨rfl, by omega, by omega⟩) | exact Or.inr (Or.inr ⟨rfl, by omega⟩), ht⟩) (fun q hq => by cases hq) dX3_valuesBelow_20

set_option maxHeartbeats 4000000 in
set_option maxRecDepth 100000 in
theorem c_X3_valueOf (l : Launch) (g : zG) (h0 : Nat) (a1 : Nat) (a2 : Nat) (a3 : Nat) (a4 : Nat) (f1 : Nat → Int32) (f2 : Nat → Int32) (f3 : Nat → Int32) (f4 : Nat → Int32) (we : Int32) (se : Int32) (p0 : Int32) : Met l yX3_valueOf (zW yX3_valueOf cX3_valueOf 2 (some .int)) ({ frames := 0, cells := 0, slots := 0, locals := 0 }) (va_Pc [.ref h0, .int p0] (zR g [(h0, .inr (3, [.int we, .ref a1, .ref a2, .ref a3, .ref a4, .int se])), (a1, .inl (g.2 0, 32, .inl f1)), (a2, .inl (g.2 0, 33, .inl f2)), (a3, .inl (g.2 0, 33, .inl f3)), (a4, .inl (g.2 0, 16, .inl f4))])) (vp_Si (fun r : Int32 => (True))) 0 0 (fun _ => False) := by
  refine Met.ofW (cc := cX3_valueOf) (maxL := 2) (ret := (some .int)) (by decide) rfl ?_
  intro p e s m args below meth c s₁ B hml hv
  obtain ⟨rfl, hP, hK, hN⟩ := hv
  have hx := B.exec
  have hb := B.bytes
  have hr := B.returns
  have hg := zW.law (atoms_spec (ws := (zW yX3_valueOf cX3_valueOf 2 (some .int))) B.pre)
  have hown : s.vm.findClass RX3 = some m.cls := findClass_of_methodNamed B.named
  have hlocks := B.notSynchronized
  have hl := lv_entry ([.ref h0, .int p0]) (n := 2) (Nat.le_of_ble_eq_true rfl)
  rw [lg_entry_eq]
  generalize (lg_sl ([.ref h0, .int p0]) ++ List.replicate (2 - (lg_sl ([.ref h0, .int p0])).length) Slot.unset).toArray = ls at hl ⊢
  have hl : lv_has ls 2 [(0, .ref h0), (1, .int p0)] := hl
  refine lv_iload_n hx hb dX3_valueOf_0 rfl (lv_at hl 1 rfl) ?_
  refine lv_if_lt (tgt := 19) hx hb dX3_valueOf_1 (by decide) (fun c1 => ?_) (fun c1 => ?_)
  · skip
    have c1 : p0.toInt < 0 := (z_lt rfl (by decide : (0 : Int32).toInt = 0)).mp c1
    refine lv_iconst (v := 0) hx hb dX3_valueOf_19 (by decide) ?_
    exact W.iret (v := 0) hx hb hr (fun t ht hW => ⟨0, rfl, trivial, ht⟩) (fun q hq => by cases hq) dX3_valueOf_20
  · skip
    have c1 : ¬ (p0.toInt < 0) := fun q => c1 ((z_lt rfl (by decide : (0 : Int32).toInt = 0)).mpr q)
    refine lv_iload_n hx hb dX3_valueOf_4 rfl (lv_at hl 1 rfl) ?_
    refine lv_bipush (v := 16) hx hb dX3_valueOf_5 (by decide) ?_
    refine lv_icmp_ge (tgt := 19) hx hb dX3_valueOf_7 (by decide) (fun c2 => ?_) (fun c2 => ?_)
    · skip
      have c2 : 16 ≤ p0.toInt := (z_le (by decide : (16 : Int32).toInt = 16) rfl).mp c2
      refine lv_iconst (v := 0) hx hb dX3_valueOf_19 (by decide) ?_
      exact W.iret (v := 0) hx hb hr (fun t ht hW => ⟨0, rfl, trivial, ht⟩) (fun q hq => by cases hq) dX3_valueOf_20
    · skip
      have c2 : ¬ (16 ≤ p0.toInt) := fun q => c2 ((z_le (by decide : (16 : Int32).toInt = 16) rfl).mpr q)
      refine lv_aload_n hx hb dX3_valueOf_10 rfl (lv_at hl 0 rfl) ?_
      refine va_get (D := g.1) (ci := 3) (v := .ref a4) (C := RX3) (T := TX3) (N := 6) hx hb hg inG3 hown hK hP 0 rfl rfl 4 (by decide) (hg _ mm_320) (fun _ h9 => h9) rfl dX3_valueOf_11 ?_
      refine lv_iload_n hx hb dX3_valueOf_14 rfl (lv_at hl 1 rfl) ?_
      refine va_iald hx hb hK hP 4 0 rfl rfl (z_in rfl (by omega) (by omega)) dX3_valueOf_15 ?_
      refine lv_topi (fun x3 ex3 => ?_)
      have ex3 : x3 = f4 (Int32.toNatClampNeg p0) := ex3.trans (congrArg f4 rfl)
      refine lv_goto (tgt := 20) hx hb dX3_valueOf_16 (by decide) ?_
      exact W.iret (v := x3) hx hb hr (fun t ht hW => ⟨x3, rfl, trivial, ht⟩) (fun q hq => by cases hq) dX3_valueOf_20

set_option maxHeartbeats 4000000 in
set_option maxRecDepth 100000 in
theorem c_X8_blurred (l : Launch) (g : zG) (h0 : Nat) (aC : Nat) (aW : Value) (aT : Value) (aB : Value) (aL : Value) (aG : Value) (aM : Value) (aA : Value) (aU : Value) (aE : Value) (aD : Value) (c0_ : Nat) (c0_1 : Nat) (c0_2 : Nat) (c0_3 : Nat) (c0_4 : Nat) (f0_1 : Nat → Int32) (f0_2 : Nat → Int32) (f0_3 : Nat → Int32) (f0_4 : Nat → Int32) (we0 : Int32) (se0 : Int32) (c1_ : Nat) (c1_1 : Nat) (c1_2 : Nat) (c1_3 : Nat) (c1_4 : Nat) (f1_1 : Nat → Int32) (f1_2 : Nat → Int32) (f1_3 : Nat → Int32) (f1_4 : Nat → Int32) (we1 : Int32) (se1 : Int32) (c2_ : Nat) (c2_1 : Nat) (c2_2 : Nat) (c2_3 : Nat) (c2_4 : Nat) (f2_1 : Nat → Int32) (f2_2 : Nat → Int32) (f2_3 : Nat → Int32) (f2_4 : Nat → Int32) (we2 : Int32) (se2 : Int32) (c3_ : Nat) (c3_1 : Nat) (c3_2 : Nat) (c3_3 : Nat) (c3_4 : Nat) (f3_1 : Nat → Int32) (f3_2 : Nat → Int32) (f3_3 : Nat → Int32) (f3_4 : Nat → Int32) (we3 : Int32) (se3 : Int32) (c0 : Int32) (v : Int32) (n : Int32) (hf0 : ∀ j, j < 32 → f0_1 j = -1) (hf1 : ∀ j, j < 32 → f1_1 j = -1) (hf2 : ∀ j, j < 32 → f2_1 j = -1) (hf3 : ∀ j, j < 32 → f3_1 j = -1) : Met l yX8_blurred (zW yX8_blurred cX8_blurred 4 (some .int)) ({ frames := 2, cells := 0, slots := 0, locals := 46 }) (va_Pc [.ref h0, .int c0, .int v, .int n] (zR g [(h0, .inr (8, [.ref aC, aW, aT, aB, aL, aG, aM, aA, aU, aE, aD, .int 0, .int 0])), (aC, .inl (g.2 4, 4, .inr (.inr (.inr (.inr (zS [some c0_, some c1_, some c2_, some c3_])))))), (c0_, .inr (3, [.int we0, .ref c0_1, .ref c0_2, .ref c0_3, .ref c0_4, .int se0])), (c0_1, .inl (g.2 0, 32, .inl f0_1)), (c0_2, .inl (g.2 0, 33, .inl f0_2)), (c0_3, .inl (g.2 0, 33, .inl f0_3)), (c0_4, .inl (g.2 0, 16, .inl f0_4)), (c1_, .inr (3, [.int we1, .ref c1_1, .ref c1_2, .ref c1_3, .ref c1_4, .int se1])), (c1_1, .inl (g.2 0, 32, .inl f1_1)), (c1_2, .inl (g.2 0, 33, .inl f1_2)), (c1_3, .inl (g.2 0, 33, .inl f1_3)), (c1_4, .inl (g.2 0, 16, .inl f1_4)), (c2_, .inr (3, [.int we2, .ref c2_1, .ref c2_2, .ref c2_3, .ref c2_4, .int se2])), (c2_1, .inl (g.2 0, 32, .inl f2_1)), (c2_2, .inl (g.2 0, 33, .inl f2_2)), (c2_3, .inl (g.2 0, 33, .inl f2_3)), (c2_4, .inl (g.2 0, 16, .inl f2_4)), (c3_, .inr (3, [.int we3, .ref c3_1, .ref c3_2, .ref c3_3, .ref c3_4, .int se3])), (c3_1, .inl (g.2 0, 32, .inl f3_1)), (c3_2, .inl (g.2 0, 33, .inl f3_2)), (c3_3, .inl (g.2 0, 33, .inl f3_3)), (c3_4, .inl (g.2 0, 16, .inl f3_4))])) (vp_Si (fun r : Int32 => (r = (-1) ∧ (¬ (0 ≤ c0.toInt ∧ c0.toInt ≤ 3 ∧ (0 ≤ v.toInt ∧ v.toInt ≤ 15) ∧ 0 ≤ n.toInt ∧ n.toInt ≤ 4))) ∨ (r = v ∧ (0 ≤ c0.toInt ∧ c0.toInt ≤ 3 ∧ (0 ≤ v.toInt ∧ v.toInt ≤ 15) ∧ 0 ≤ n.toInt ∧ n.toInt ≤ 4) ∧ (n.toInt = 0)) ∨ (r = 32 ∧ (0 ≤ c0.toInt ∧ c0.toInt ≤ 3 ∧ (0 ≤ v.toInt ∧ v.toInt ≤ 15) ∧ 0 ≤ n.toInt ∧ n.toInt ≤ 4) ∧ (1 ≤ n.toInt)))) 0 0 (fun _ => False) := by
  refine Met.ofW (cc := cX8_blurred) (maxL := 4) (ret := (some .int)) (by decide) rfl ?_
  intro p e s m args below meth c s₁ B hml hv
  obtain ⟨rfl, hP, hK, hN⟩ := hv
  have hx := B.exec
  have hb := B.bytes
  have hr := B.returns
  have hg := zW.law (atoms_spec (ws := (zW yX8_blurred cX8_blurred 4 (some .int))) B.pre)
  have hown : s.vm.findClass RX8 = some m.cls := findClass_of_methodNamed B.named
  have hlocks := B.notSynchronized
  have hl := lv_entry ([.ref h0, .int c0, .int v, .int n]) (n := 4) (Nat.le_of_ble_eq_true rfl)
  rw [lg_entry_eq]
  generalize (lg_sl ([.ref h0, .int c0, .int v, .int n]) ++ List.replicate (4 - (lg_sl ([.ref h0, .int c0, .int v, .int n])).length) Slot.unset).toArray = ls at hl ⊢
  have hl : lv_has ls 4 [(0, .ref h0), (1, .int c0), (2, .int v), (3, .int n)] := hl
  refine lv_iload_n hx hb dX8_blurred_0 rfl (lv_at hl 1 rfl) ?_
  have hPc := hP.sub (ws' := []) [] rfl
  refine zc_i (va_runS (As := [.int c0]) (rest := []) ⟨hx, hb, hml, hown, hg⟩ (c_X8_isColumn l g c0 ) (va_cwS 1 hg (z_gS mm_404 mm_405 mm_108 mm_406) rfl rfl rfl (by decide +kernel) ⟨Nat.le_of_ble_eq_true rfl, Nat.le_of_ble_eq_true rfl⟩) (zR.pre [.int c0] hPc hK hN) rfl rfl hl.1 rfl (lv_room (Nat.le_of_ble_eq_true rfl)) dX8_blurred_1 ⟨Nat.le_of_ble_eq_true rfl, Nat.le_of_ble_eq_true rfl⟩) (fun r1 hr1 => ?_)
  rcases hr1 with hr1 | hr1
  · skip
    obtain ⟨rfl, h2, h3⟩ := hr1
    have h2 : 0 ≤ c0.toInt := h2
    have h3 : c0.toInt ≤ 3 := h3
    refine lv_if_eq (tgt := 21) hx hb dX8_blurred_4 (by decide) (fun c4 => ?_) (fun c4 => ?_)
    · skip
      exact absurd c4 (by decide)
    · skip
      refine lv_iload_n hx hb dX8_blurred_7 rfl (lv_at hl 2 rfl) ?_
      have hPc := hP.sub (ws' := []) [] rfl
      refine zc_i (va_runS (As := [.int v]) (rest := []) ⟨hx, hb, hml, hown, hg⟩ (c_X8_isValue l g v ) (va_cwS 1 hg (z_gS mm_431 mm_432 mm_108 mm_433) rfl rfl rfl (by decide +kernel) ⟨Nat.le_of_ble_eq_true rfl, Nat.le_of_ble_eq_true rfl⟩) (zR.pre [.int v] hPc hK hN) rfl rfl hl.1 rfl (lv_room (Nat.le_of_ble_eq_true rfl)) dX8_blurred_8 ⟨Nat.le_of_ble_eq_true rfl, Nat.le_of_ble_eq_true rfl⟩) (fun r5 hr5 => ?_)
      rcases hr5 with hr5 | hr5
      · skip
        obtain ⟨rfl, h6, h7⟩ := hr5
        have h6 : 0 ≤ v.toInt := h6
        have h7 : v.toInt ≤ 15 := h7
        refine lv_if_eq (tgt := 21) hx hb dX8_blurred_11 (by decide) (fun c8 => ?_) (fun c8 => ?_)
        · skip
          exact absurd c8 (by decide)
        · skip
          refine lv_iload_n hx hb dX8_blurred_14 rfl (lv_at hl 3 rfl) ?_
          have hPc := hP.sub (ws' := []) [] rfl
          refine zc_i (va_runS (As := [.int n]) (rest := []) ⟨hx, hb, hml, hown, hg⟩ (c_X8_isLevel l g n ) (va_cwS 1 hg (z_gS mm_529 mm_530 mm_108 mm_531) rfl rfl rfl (by decide +kernel) ⟨Nat.le_of_ble_eq_true rfl, Nat.le_of_ble_eq_true rfl⟩) (zR.pre [.int n] hPc hK hN) rfl rfl hl.1 rfl (lv_room (Nat.le_of_ble_eq_true rfl)) dX8_blurred_15 ⟨Nat.le_of_ble_eq_true rfl, Nat.le_of_ble_eq_true rfl⟩) (fun r9 hr9 => ?_)
          rcases hr9 with hr9 | hr9
          · skip
            obtain ⟨rfl, h10, h11⟩ := hr9
            have h10 : 0 ≤ n.toInt := h10
            have h11 : n.toInt ≤ 4 := h11
            refine lv_if_ne (tgt := 23) hx hb dX8_blurred_18 (by decide) (fun c12 => ?_) (fun c12 => ?_)
            · skip
              refine lv_aload_n hx hb dX8_blurred_23 rfl (lv_at hl 0 rfl) ?_
              refine va_get (D := g.1) (ci := 8) (v := .ref aC) (C := RX8) (T := TX8) (N := 13) hx hb hg inG8 hown hK hP 0 rfl rfl 0 (by decide) (hg _ mm_360) (fun _ h9 => h9) rfl dX8_blurred_24 ?_
              refine lv_iload_n hx hb dX8_blurred_27 rfl (lv_at hl 1 rfl) ?_
              rcases z_c4 c0 (by omega) (by omega) with hs13 | hs13 | hs13 | hs13
              · skip
                have ehs13 : c0.toInt = 0 := by rw [hs13]; rfl
                have qhs13 : (0 : Int32).toInt = 0 := rfl
                subst hs13
                refine va_aldq hx hb hK hP 1 4 rfl rfl (z_in (by decide : (0 : Int32).toInt = 0) (by omega) (by omega)) dX8_blurred_28 ?_
                refine W.eq (g2 := F0 m 29 ls [.ref c0_]) rfl ?_
                refine lv_iload_n hx hb dX8_blurred_29 rfl (lv_at hl 2 rfl) ?_
                refine lv_iload_n hx hb dX8_blurred_30 rfl (lv_at hl 3 rfl) ?_
                have hPc := hP.sub (ws' := [(c0_, .inr (3, [.int we0, .ref c0_1, .ref c0_2, .ref c0_3, .ref c0_4, .int se0])), (c0_1, .inl (g.2 0, 32, .inl f0_1)), (c0_2, .inl (g.2 0, 33, .inl f0_2)), (c0_3, .inl (g.2 0, 33, .inl f0_3)), (c0_4, .inl (g.2 0, 16, .inl f0_4))]) [2, 3, 4, 5, 6] rfl
                refine zc_i (va_runV (As := [.int v, .int n]) (rest := []) ⟨hx, hb, hml, hown, hg⟩ (c_X3_raised l g c0_ c0_1 c0_2 c0_3 c0_4 f0_1 f0_2 f0_3 f0_4 we0 se0 v n (by first | assumption | omega) (by first | omega | assumption | decide) (by first | omega | assumption | decide)) (cwV 2 hg (z_gV mm_532 mm_533 mm_534 mm_115 mm_535) rfl rfl rfl (by decide +kernel) ⟨Nat.le_of_ble_eq_true rfl, Nat.le_of_ble_eq_true rfl⟩) ⟨(zR.pre [.ref c0_, .int v, .int n] hPc hK hN).1, va_recv hK hPc (ci := 3) (q0 := 0) rfl rfl, (zR.pre [.ref c0_, .int v, .int n] hPc hK hN).2⟩ rfl rfl hl.1 rfl (lv_room (Nat.le_of_ble_eq_true rfl)) dX8_blurred_31 ⟨Nat.le_of_ble_eq_true rfl, Nat.le_of_ble_eq_true rfl⟩) (fun r14 hr14 => ?_)
                rcases hr14 with hr14 | hr14
                · skip
                  obtain ⟨hqr14, h15⟩ := hr14
                  subst r14
                  have h15 : n.toInt = 0 := h15
                  exact W.iret (v := v) hx hb hr (fun t ht hW => ⟨v, rfl, by first | exact Or.inl ⟨rfl, by omega⟩ | exact Or.inr (Or.inl ⟨rfl, by omega, by omega⟩) | exact Or.inr (Or.inr ⟨rfl, by omega, by omega⟩), ht⟩) (fun q hq => by cases hq) dX8_blurred_34
                · skip
                  obtain ⟨rfl, h16⟩ := hr14
                  have h16 : 1 ≤ n.toInt := h16
                  exact W.iret (v := 32) hx hb hr (fun t ht hW => ⟨32, rfl, by first | exact Or.inl ⟨rfl, by omega⟩ | exact Or.inr (Or.inl ⟨rfl, by omega, by omega⟩) | exact Or.inr (Or.inr ⟨rfl, by omega, by omega⟩), ht⟩) (fun q hq => by cases hq) dX8_blurred_34
              · skip
                have ehs13 : c0.toInt = 1 := by rw [hs13]; rfl
                have qhs13 : (1 : Int32).toInt = 1 := rfl
                subst hs13
                refine va_aldq hx hb hK hP 1 4 rfl rfl (z_in (by decide : (1 : Int32).toInt = 1) (by omega) (by omega)) dX8_blurred_28 ?_
                refine W.eq (g2 := F0 m 29 ls [.ref c1_]) rfl ?_
                refine lv_iload_n hx hb dX8_blurred_29 rfl (lv_at hl 2 rfl) ?_
                refine lv_iload_n hx hb dX8_blurred_30 rfl (lv_at hl 3 rfl) ?_
                have hPc := hP.sub (ws' := [(c1_, .inr (3, [.int we1, .ref c1_1, .ref c1_2, .ref c1_3, .ref c1_4, .int se1])), (c1_1, .inl (g.2 0, 32, .inl f1_1)), (c1_2, .inl (g.2 0, 33, .inl f1_2)), (c1_3, .inl (g.2 0, 33, .inl f1_3)), (c1_4, .inl (g.2 0, 16, .inl f1_4))]) [7, 8, 9, 10, 11] rfl
                refine zc_i (va_runV (As := [.int v, .int n]) (rest := []) ⟨hx, hb, hml, hown, hg⟩ (c_X3_raised l g c1_ c1_1 c1_2 c1_3 c1_4 f1_1 f1_2 f1_3 f1_4 we1 se1 v n (by first | assumption | omega) (by first | omega | assumption | decide) (by first | omega | assumption | decide)) (cwV 2 hg (z_gV mm_532 mm_533 mm_534 mm_115 mm_535) rfl rfl rfl (by decide +kernel) ⟨Nat.le_of_ble_eq_true rfl, Nat.le_of_ble_eq_true rfl⟩) ⟨(zR.pre [.ref c1_, .int v, .int n] hPc hK hN).1, va_recv hK hPc (ci := 3) (q0 := 0) rfl rfl, (zR.pre [.ref c1_, .int v, .int n] hPc hK hN).2⟩ rfl rfl hl.1 rfl (lv_room (Nat.le_of_ble_eq_true rfl)) dX8_blurred_31 ⟨Nat.le_of_ble_eq_true rfl, Nat.le_of_ble_eq_true rfl⟩) (fun r17 hr17 => ?_)
                rcases hr17 with hr17 | hr17
                · skip
                  obtain ⟨hqr17, h18⟩ := hr17
                  subst r17
                  have h18 : n.toInt = 0 := h18
                  exact W.iret (v := v) hx hb hr (fun t ht hW => ⟨v, rfl, by first | exact Or.inl ⟨rfl, by omega⟩ | exact Or.inr (Or.inl ⟨rfl, by omega, by omega⟩) | exact Or.inr (Or.inr ⟨rfl, by omega, by omega⟩), ht⟩) (fun q hq => by cases hq) dX8_blurred_34
                · skip
                  obtain ⟨rfl, h19⟩ := hr17
                  have h19 : 1 ≤ n.toInt := h19
                  exact W.iret (v := 32) hx hb hr (fun t ht hW => ⟨32, rfl, by first | exact Or.inl ⟨rfl, by omega⟩ | exact Or.inr (Or.inl ⟨rfl, by omega, by omega⟩) | exact Or.inr (Or.inr ⟨rfl, by omega, by omega⟩), ht⟩) (fun q hq => by cases hq) dX8_blurred_34
              · skip
                have ehs13 : c0.toInt = 2 := by rw [hs13]; rfl
                have qhs13 : (2 : Int32).toInt = 2 := rfl
                subst hs13
                refine va_aldq hx hb hK hP 1 4 rfl rfl (z_in (by decide : (2 : Int32).toInt = 2) (by omega) (by omega)) dX8_blurred_28 ?_
                refine W.eq (g2 := F0 m 29 ls [.ref c2_]) rfl ?_
                refine lv_iload_n hx hb dX8_blurred_29 rfl (lv_at hl 2 rfl) ?_
                refine lv_iload_n hx hb dX8_blurred_30 rfl (lv_at hl 3 rfl) ?_
                have hPc := hP.sub (ws' := [(c2_, .inr (3, [.int we2, .ref c2_1, .ref c2_2, .ref c2_3, .ref c2_4, .int se2])), (c2_1, .inl (g.2 0, 32, .inl f2_1)), (c2_2, .inl (g.2 0, 33, .inl f2_2)), (c2_3, .inl (g.2 0, 33, .inl f2_3)), (c2_4, .inl (g.2 0, 16, .inl f2_4))]) [12, 13, 14, 15, 16] rfl
                refine zc_i (va_runV (As := [.int v, .int n]) (rest := []) ⟨hx, hb, hml, hown, hg⟩ (c_X3_raised l g c2_ c2_1 c2_2 c2_3 c2_4 f2_1 f2_2 f2_3 f2_4 we2 se2 v n (by first | assumption | omega) (by first | omega | assumption | decide) (by first | omega | assumption | decide)) (cwV 2 hg (z_gV mm_532 mm_533 mm_534 mm_115 mm_535) rfl rfl rfl (by decide +kernel) ⟨Nat.le_of_ble_eq_true rfl, Nat.le_of_ble_eq_true rfl⟩) ⟨(zR.pre [.ref c2_, .int v, .int n] hPc hK hN).1, va_recv hK hPc (ci := 3) (q0 := 0) rfl rfl, (zR.pre [.ref c2_, .int v, .int n] hPc hK hN).2⟩ rfl rfl hl.1 rfl (lv_room (Nat.le_of_ble_eq_true rfl)) dX8_blurred_31 ⟨Nat.le_of_ble_eq_true rfl, Nat.le_of_ble_eq_true rfl⟩) (fun r20 hr20 => ?_)
                rcases hr20 with hr20 | hr20
                · skip
                  obtain ⟨hqr20, h21⟩ := hr20
                  subst r20
                  have h21 : n.toInt = 0 := h21
                  exact W.iret (v := v) hx hb hr (fun t ht hW => ⟨v, rfl, by first | exact Or.inl ⟨rfl, by omega⟩ | exact Or.inr (Or.inl ⟨rfl, by omega, by omega⟩) | exact Or.inr (Or.inr ⟨rfl, by omega, by omega⟩), ht⟩) (fun q hq => by cases hq) dX8_blurred_34
                · skip
                  obtain ⟨rfl, h22⟩ := hr20
                  have h22 : 1 ≤ n.toInt := h22
                  exact W.iret (v := 32) hx hb hr (fun t ht hW => ⟨32, rfl, by first | exact Or.inl ⟨rfl, by omega⟩ | exact Or.inr (Or.inl ⟨rfl, by omega, by omega⟩) | exact Or.inr (Or.inr ⟨rfl, by omega, by omega⟩), ht⟩) (fun q hq => by cases hq) dX8_blurred_34
              · skip
                have ehs13 : c0.toInt = 3 := by rw [hs13]; rfl
                have qhs13 : (3 : Int32).toInt = 3 := rfl
                subst hs13
                refine va_aldq hx hb hK hP 1 4 rfl rfl (z_in (by decide : (3 : Int32).toInt = 3) (by omega) (by omega)) dX8_blurred_28 ?_
                refine W.eq (g2 := F0 m 29 ls [.ref c3_]) rfl ?_
                refine lv_iload_n hx hb dX8_blurred_29 rfl (lv_at hl 2 rfl) ?_
                refine lv_iload_n hx hb dX8_blurred_30 rfl (lv_at hl 3 rfl) ?_
                have hPc := hP.sub (ws' := [(c3_, .inr (3, [.int we3, .ref c3_1, .ref c3_2, .ref c3_3, .ref c3_4, .int se3])), (c3_1, .inl (g.2 0, 32, .inl f3_1)), (c3_2, .inl (g.2 0, 33, .inl f3_2)), (c3_3, .inl (g.2 0, 33, .inl f3_3)), (c3_4, .inl (g.2 0, 16, .inl f3_4))]) [17, 18, 19, 20, 21] rfl
                refine zc_i (va_runV (As := [.int v, .int n]) (rest := []) ⟨hx, hb, hml, hown, hg⟩ (c_X3_raised l g c3_ c3_1 c3_2 c3_3 c3_4 f3_1 f3_2 f3_3 f3_4 we3 se3 v n (by first | assumption | omega) (by first | omega | assumption | decide) (by first | omega | assumption | decide)) (cwV 2 hg (z_gV mm_532 mm_533 mm_534 mm_115 mm_535) rfl rfl rfl (by decide +kernel) ⟨Nat.le_of_ble_eq_true rfl, Nat.le_of_ble_eq_true rfl⟩) ⟨(zR.pre [.ref c3_, .int v, .int n] hPc hK hN).1, va_recv hK hPc (ci := 3) (q0 := 0) rfl rfl, (zR.pre [.ref c3_, .int v, .int n] hPc hK hN).2⟩ rfl rfl hl.1 rfl (lv_room (Nat.le_of_ble_eq_true rfl)) dX8_blurred_31 ⟨Nat.le_of_ble_eq_true rfl, Nat.le_of_ble_eq_true rfl⟩) (fun r23 hr23 => ?_)
                rcases hr23 with hr23 | hr23
                · skip
                  obtain ⟨hqr23, h24⟩ := hr23
                  subst r23
                  have h24 : n.toInt = 0 := h24
                  exact W.iret (v := v) hx hb hr (fun t ht hW => ⟨v, rfl, by first | exact Or.inl ⟨rfl, by omega⟩ | exact Or.inr (Or.inl ⟨rfl, by omega, by omega⟩) | exact Or.inr (Or.inr ⟨rfl, by omega, by omega⟩), ht⟩) (fun q hq => by cases hq) dX8_blurred_34
                · skip
                  obtain ⟨rfl, h25⟩ := hr23
                  have h25 : 1 ≤ n.toInt := h25
                  exact W.iret (v := 32) hx hb hr (fun t ht hW => ⟨32, rfl, by first | exact Or.inl ⟨rfl, by omega⟩ | exact Or.inr (Or.inl ⟨rfl, by omega, by omega⟩) | exact Or.inr (Or.inr ⟨rfl, by omega, by omega⟩), ht⟩) (fun q hq => by cases hq) dX8_blurred_34
            · skip
              exact absurd c12 (by decide)
          · skip
            obtain ⟨rfl, h26⟩ := hr9
            have h26 : ¬ (0 ≤ n.toInt ∧ n.toInt ≤ 4) := h26
            refine lv_if_ne (tgt := 23) hx hb dX8_blurred_18 (by decide) (fun c27 => ?_) (fun c27 => ?_)
            · skip
              exact absurd c27 (by decide)
            · skip
              refine lv_iconst (v := (-1)) hx hb dX8_blurred_21 (by decide) ?_
              exact W.iret (v := (-1)) hx hb hr (fun t ht hW => ⟨(-1), rfl, by first | exact Or.inl ⟨rfl, by omega⟩ | exact Or.inr (Or.inl ⟨rfl, by omega, by omega⟩) | exact Or.inr (Or.inr ⟨rfl, by omega, by omega⟩), ht⟩) (fun q hq => by cases hq) dX8_blurred_22
      · skip
        obtain ⟨rfl, h28⟩ := hr5
        have h28 : ¬ (0 ≤ v.toInt ∧ v.toInt ≤ 15) := h28
        refine lv_if_eq (tgt := 21) hx hb dX8_blurred_11 (by decide) (fun c29 => ?_) (fun c29 => ?_)
        · skip
          refine lv_iconst (v := (-1)) hx hb dX8_blurred_21 (by decide) ?_
          exact W.iret (v := (-1)) hx hb hr (fun t ht hW => ⟨(-1), rfl, by first | exact Or.inl ⟨rfl, by omega⟩ | exact Or.inr (Or.inl ⟨rfl, by omega, by omega⟩) | exact Or.inr (Or.inr ⟨rfl, by omega, by omega⟩), ht⟩) (fun q hq => by cases hq) dX8_blurred_22
        · skip
          exact absurd c29 (by decide)
  · skip
    obtain ⟨rfl, h30⟩ := hr1
    have h30 : ¬ (0 ≤ c0.toInt ∧ c0.toInt ≤ 3) := h30
    refine lv_if_eq (tgt := 21) hx hb dX8_blurred_4 (by decide) (fun c31 => ?_) (fun c31 => ?_)
    · skip
      refine lv_iconst (v := (-1)) hx hb dX8_blurred_21 (by decide) ?_
      exact W.iret (v := (-1)) hx hb hr (fun t ht hW => ⟨(-1), rfl, by first | exact Or.inl ⟨rfl, by omega⟩ | exact Or.inr (Or.inl ⟨rfl, by omega, by omega⟩) | exact Or.inr (Or.inr ⟨rfl, by omega, by omega⟩), ht⟩) (fun q hq => by cases hq) dX8_blurred_22
    · skip
      exact absurd c31 (by decide)

set_option maxHeartbeats 4000000 in
set_option maxRecDepth 100000 in
theorem c_X8_size (l : Launch) (g : zG) (h0 : Nat) (aC : Nat) (aW : Value) (aT : Value) (aB : Value) (aL : Value) (aG : Value) (aM : Value) (aA : Value) (aU : Value) (aE : Value) (aD : Value) (c0_ : Nat) (c0_1 : Nat) (c0_2 : Nat) (c0_3 : Nat) (c0_4 : Nat) (f0_1 : Nat → Int32) (f0_2 : Nat → Int32) (f0_3 : Nat → Int32) (f0_4 : Nat → Int32) (we0 : Int32) (se0 : Int32) (c1_ : Nat) (c1_1 : Nat) (c1_2 : Nat) (c1_3 : Nat) (c1_4 : Nat) (f1_1 : Nat → Int32) (f1_2 : Nat → Int32) (f1_3 : Nat → Int32) (f1_4 : Nat → Int32) (we1 : Int32) (se1 : Int32) (c2_ : Nat) (c2_1 : Nat) (c2_2 : Nat) (c2_3 : Nat) (c2_4 : Nat) (f2_1 : Nat → Int32) (f2_2 : Nat → Int32) (f2_3 : Nat → Int32) (f2_4 : Nat → Int32) (we2 : Int32) (se2 : Int32) (c3_ : Nat) (c3_1 : Nat) (c3_2 : Nat) (c3_3 : Nat) (c3_4 : Nat) (f3_1 : Nat → Int32) (f3_2 : Nat → Int32) (f3_3 : Nat → Int32) (f3_4 : Nat → Int32) (we3 : Int32) (se3 : Int32) (c0 : Int32) (nd : Int32) (hg0a : ∀ j, j < 16 → f0_2 j = 1) (hg0b : ∀ j, 16 ≤ j → j < 32 → f0_2 j = 0) (hg0c : f0_2 32 = 16) (hg1a : ∀ j, j < 16 → f1_2 j = 1) (hg1b : ∀ j, 16 ≤ j → j < 32 → f1_2 j = 0) (hg1c : f1_2 32 = 16) (hg2a : ∀ j, j < 16 → f2_2 j = 1) (hg2b : ∀ j, 16 ≤ j → j < 32 → f2_2 j = 0) (hg2c : f2_2 32 = 16) (hg3a : ∀ j, j < 16 → f3_2 j = 1) (hg3b : ∀ j, 16 ≤ j → j < 32 → f3_2 j = 0) (hg3c : f3_2 32 = 16) : Met l yX8_size (zW yX8_size cX8_size 3 (some .int)) ({ frames := 1, cells := 0, slots := 0, locals := 22 }) (va_Pc [.ref h0, .int c0, .int nd] (zR g [(h0, .inr (8, [.ref aC, aW, aT, aB, aL, aG, aM, aA, aU, aE, aD, .int 0, .int 0])), (aC, .inl (g.2 4, 4, .inr (.inr (.inr (.inr (zS [some c0_, some c1_, some c2_, some c3_])))))), (c0_, .inr (3, [.int we0, .ref c0_1, .ref c0_2, .ref c0_3, .ref c0_4, .int se0])), (c0_1, .inl (g.2 0, 32, .inl f0_1)), (c0_2, .inl (g.2 0, 33, .inl f0_2)), (c0_3, .inl (g.2 0, 33, .inl f0_3)), (c0_4, .inl (g.2 0, 16, .inl f0_4)), (c1_, .inr (3, [.int we1, .ref c1_1, .ref c1_2, .ref c1_3, .ref c1_4, .int se1])), (c1_1, .inl (g.2 0, 32, .inl f1_1)), (c1_2, .inl (g.2 0, 33, .inl f1_2)), (c1_3, .inl (g.2 0, 33, .inl f1_3)), (c1_4, .inl (g.2 0, 16, .inl f1_4)), (c2_, .inr (3, [.int we2, .ref c2_1, .ref c2_2, .ref c2_3, .ref c2_4, .int se2])), (c2_1, .inl (g.2 0, 32, .inl f2_1)), (c2_2, .inl (g.2 0, 33, .inl f2_2)), (c2_3, .inl (g.2 0, 33, .inl f2_3)), (c2_4, .inl (g.2 0, 16, .inl f2_4)), (c3_, .inr (3, [.int we3, .ref c3_1, .ref c3_2, .ref c3_3, .ref c3_4, .int se3])), (c3_1, .inl (g.2 0, 32, .inl f3_1)), (c3_2, .inl (g.2 0, 33, .inl f3_2)), (c3_3, .inl (g.2 0, 33, .inl f3_3)), (c3_4, .inl (g.2 0, 16, .inl f3_4))])) (vp_Si (fun r : Int32 => (r = (-1) ∧ (¬ (0 ≤ c0.toInt ∧ c0.toInt ≤ 3 ∧ (0 ≤ nd.toInt ∧ nd.toInt ≤ 32)))) ∨ (r = 1 ∧ (0 ≤ c0.toInt ∧ c0.toInt ≤ 3 ∧ (0 ≤ nd.toInt ∧ nd.toInt ≤ 32)) ∧ (nd.toInt < 16)) ∨ (r = 0 ∧ (0 ≤ c0.toInt ∧ c0.toInt ≤ 3 ∧ (0 ≤ nd.toInt ∧ nd.toInt ≤ 32)) ∧ (16 ≤ nd.toInt ∧ nd.toInt < 32)) ∨ (r = 16 ∧ (0 ≤ c0.toInt ∧ c0.toInt ≤ 3 ∧ (0 ≤ nd.toInt ∧ nd.toInt ≤ 32)) ∧ (nd.toInt = 32)))) 0 0 (fun _ => False) := by
  refine Met.ofW (cc := cX8_size) (maxL := 3) (ret := (some .int)) (by decide) rfl ?_
  intro p e s m args below meth c s₁ B hml hv
  obtain ⟨rfl, hP, hK, hN⟩ := hv
  have hx := B.exec
  have hb := B.bytes
  have hr := B.returns
  have hg := zW.law (atoms_spec (ws := (zW yX8_size cX8_size 3 (some .int))) B.pre)
  have hown : s.vm.findClass RX8 = some m.cls := findClass_of_methodNamed B.named
  have hlocks := B.notSynchronized
  have hl := lv_entry ([.ref h0, .int c0, .int nd]) (n := 3) (Nat.le_of_ble_eq_true rfl)
  rw [lg_entry_eq]
  generalize (lg_sl ([.ref h0, .int c0, .int nd]) ++ List.replicate (3 - (lg_sl ([.ref h0, .int c0, .int nd])).length) Slot.unset).toArray = ls at hl ⊢
  have hl : lv_has ls 3 [(0, .ref h0), (1, .int c0), (2, .int nd)] := hl
  refine lv_iload_n hx hb dX8_size_0 rfl (lv_at hl 1 rfl) ?_
  have hPc := hP.sub (ws' := []) [] rfl
  refine zc_i (va_runS (As := [.int c0]) (rest := []) ⟨hx, hb, hml, hown, hg⟩ (c_X8_isColumn l g c0 ) (va_cwS 1 hg (z_gS mm_404 mm_405 mm_108 mm_406) rfl rfl rfl (by decide +kernel) ⟨Nat.le_of_ble_eq_true rfl, Nat.le_of_ble_eq_true rfl⟩) (zR.pre [.int c0] hPc hK hN) rfl rfl hl.1 rfl (lv_room (Nat.le_of_ble_eq_true rfl)) dX8_size_1 ⟨Nat.le_of_ble_eq_true rfl, Nat.le_of_ble_eq_true rfl⟩) (fun r1 hr1 => ?_)
  rcases hr1 with hr1 | hr1
  · skip
    obtain ⟨rfl, h2, h3⟩ := hr1
    have h2 : 0 ≤ c0.toInt := h2
    have h3 : c0.toInt ≤ 3 := h3
    refine lv_if_eq (tgt := 17) hx hb dX8_size_4 (by decide) (fun c4 => ?_) (fun c4 => ?_)
    · skip
      exact absurd c4 (by decide)
    · skip
      refine lv_iload_n hx hb dX8_size_7 rfl (lv_at hl 2 rfl) ?_
      refine lv_iconst (v := 0) hx hb dX8_size_8 (by decide) ?_
      refine lv_bipush (v := 32) hx hb dX8_size_9 (by decide) ?_
      have hPc := hP.sub (ws' := []) [] rfl
      refine zc_i (va_runS (As := [.int nd, .int 0, .int 32]) (rest := []) ⟨hx, hb, hml, hown, hg⟩ (c_X8_within l g nd (0 : Int32) (32 : Int32) ) (va_cwS 3 hg (z_gS mm_407 mm_408 mm_108 mm_409) rfl rfl rfl (by decide +kernel) ⟨Nat.le_of_ble_eq_true rfl, Nat.le_of_ble_eq_true rfl⟩) (zR.pre [.int nd, .int 0, .int 32] hPc hK hN) rfl rfl hl.1 rfl (lv_room (Nat.le_of_ble_eq_true rfl)) dX8_size_11 ⟨Nat.le_of_ble_eq_true rfl, Nat.le_of_ble_eq_true rfl⟩) (fun r5 hr5 => ?_)
      rcases hr5 with hr5 | hr5
      · skip
        obtain ⟨rfl, h6, h7⟩ := hr5
        have h6 : (0 : Int) ≤ nd.toInt := h6
        have h7 : nd.toInt ≤ (32 : Int) := h7
        refine lv_if_ne (tgt := 19) hx hb dX8_size_14 (by decide) (fun c8 => ?_) (fun c8 => ?_)
        · skip
          refine lv_aload_n hx hb dX8_size_19 rfl (lv_at hl 0 rfl) ?_
          refine va_get (D := g.1) (ci := 8) (v := .ref aC) (C := RX8) (T := TX8) (N := 13) hx hb hg inG8 hown hK hP 0 rfl rfl 0 (by decide) (hg _ mm_360) (fun _ h9 => h9) rfl dX8_size_20 ?_
          refine lv_iload_n hx hb dX8_size_23 rfl (lv_at hl 1 rfl) ?_
          rcases z_c4 c0 (by omega) (by omega) with hs9 | hs9 | hs9 | hs9
          · skip
            have ehs9 : c0.toInt = 0 := by rw [hs9]; rfl
            have qhs9 : (0 : Int32).toInt = 0 := rfl
            subst hs9
            refine va_aldq hx hb hK hP 1 4 rfl rfl (z_in (by decide : (0 : Int32).toInt = 0) (by omega) (by omega)) dX8_size_24 ?_
            refine W.eq (g2 := F0 m 25 ls [.ref c0_]) rfl ?_
            refine lv_iload_n hx hb dX8_size_25 rfl (lv_at hl 2 rfl) ?_
            have hPc := hP.sub (ws' := [(c0_, .inr (3, [.int we0, .ref c0_1, .ref c0_2, .ref c0_3, .ref c0_4, .int se0])), (c0_1, .inl (g.2 0, 32, .inl f0_1)), (c0_2, .inl (g.2 0, 33, .inl f0_2)), (c0_3, .inl (g.2 0, 33, .inl f0_3)), (c0_4, .inl (g.2 0, 16, .inl f0_4))]) [2, 3, 4, 5, 6] rfl
            refine zc_i (va_runV (As := [.int nd]) (rest := []) ⟨hx, hb, hml, hown, hg⟩ (c_X3_valuesBelow l g c0_ c0_1 c0_2 c0_3 c0_4 f0_1 f0_2 f0_3 f0_4 we0 se0 nd (by first | assumption | omega) (by first | assumption | omega) (by first | assumption | omega) (by first | omega | assumption | decide)) (cwV 1 hg (z_gV mm_540 mm_541 mm_542 mm_115 mm_543) rfl rfl rfl (by decide +kernel) ⟨Nat.le_of_ble_eq_true rfl, Nat.le_of_ble_eq_true rfl⟩) ⟨(zR.pre [.ref c0_, .int nd] hPc hK hN).1, va_recv hK hPc (ci := 3) (q0 := 0) rfl rfl, (zR.pre [.ref c0_, .int nd] hPc hK hN).2⟩ rfl rfl hl.1 rfl (lv_room (Nat.le_of_ble_eq_true rfl)) dX8_size_26 ⟨Nat.le_of_ble_eq_true rfl, Nat.le_of_ble_eq_true rfl⟩) (fun r10 hr10 => ?_)
            rcases hr10 with hr10 | hr10 | hr10
            · skip
              obtain ⟨rfl, h11⟩ := hr10
              have h11 : nd.toInt < 16 := h11
              exact W.iret (v := 1) hx hb hr (fun t ht hW => ⟨1, rfl, by first | exact Or.inl ⟨rfl, by omega⟩ | exact Or.inr (Or.inl ⟨rfl, by omega, by omega⟩) | exact Or.inr (Or.inr (Or.inl ⟨rfl, by omega, by omega⟩)) | exact Or.inr (Or.inr (Or.inr ⟨rfl, by omega, by omega⟩)), ht⟩) (fun q hq => by cases hq) dX8_size_29
            · skip
              obtain ⟨rfl, h12, h13⟩ := hr10
              have h12 : 16 ≤ nd.toInt := h12
              have h13 : nd.toInt < 32 := h13
              exact W.iret (v := 0) hx hb hr (fun t ht hW => ⟨0, rfl, by first | exact Or.inl ⟨rfl, by omega⟩ | exact Or.inr (Or.inl ⟨rfl, by omega, by omega⟩) | exact Or.inr (Or.inr (Or.inl ⟨rfl, by omega, by omega⟩)) | exact Or.inr (Or.inr (Or.inr ⟨rfl, by omega, by omega⟩)), ht⟩) (fun q hq => by cases hq) dX8_size_29
            · skip
              obtain ⟨rfl, h14⟩ := hr10
              have h14 : nd.toInt = 32 := h14
              exact W.iret (v := 16) hx hb hr (fun t ht hW => ⟨16, rfl, by first | exact Or.inl ⟨rfl, by omega⟩ | exact Or.inr (Or.inl ⟨rfl, by omega, by omega⟩) | exact Or.inr (Or.inr (Or.inl ⟨rfl, by omega, by omega⟩)) | exact Or.inr (Or.inr (Or.inr ⟨rfl, by omega, by omega⟩)), ht⟩) (fun q hq => by cases hq) dX8_size_29
          · skip
            have ehs9 : c0.toInt = 1 := by rw [hs9]; rfl
            have qhs9 : (1 : Int32).toInt = 1 := rfl
            subst hs9
            refine va_aldq hx hb hK hP 1 4 rfl rfl (z_in (by decide : (1 : Int32).toInt = 1) (by omega) (by omega)) dX8_size_24 ?_
            refine W.eq (g2 := F0 m 25 ls [.ref c1_]) rfl ?_
            refine lv_iload_n hx hb dX8_size_25 rfl (lv_at hl 2 rfl) ?_
            have hPc := hP.sub (ws' := [(c1_, .inr (3, [.int we1, .ref c1_1, .ref c1_2, .ref c1_3, .ref c1_4, .int se1])), (c1_1, .inl (g.2 0, 32, .inl f1_1)), (c1_2, .inl (g.2 0, 33, .inl f1_2)), (c1_3, .inl (g.2 0, 33, .inl f1_3)), (c1_4, .inl (g.2 0, 16, .inl f1_4))]) [7, 8, 9, 10, 11] rfl
            refine zc_i (va_runV (As := [.int nd]) (rest := []) ⟨hx, hb, hml, hown, hg⟩ (c_X3_valuesBelow l g c1_ c1_1 c1_2 c1_3 c1_4 f1_1 f1_2 f1_3 f1_4 we1 se1 nd (by first | assumption | omega) (by first | assumption | omega) (by first | assumption | omega) (by first | omega | assumption | decide)) (cwV 1 hg (z_gV mm_540 mm_541 mm_542 mm_115 mm_543) rfl rfl rfl (by decide +kernel) ⟨Nat.le_of_ble_eq_true rfl, Nat.le_of_ble_eq_true rfl⟩) ⟨(zR.pre [.ref c1_, .int nd] hPc hK hN).1, va_recv hK hPc (ci := 3) (q0 := 0) rfl rfl, (zR.pre [.ref c1_, .int nd] hPc hK hN).2⟩ rfl rfl hl.1 rfl (lv_room (Nat.le_of_ble_eq_true rfl)) dX8_size_26 ⟨Nat.le_of_ble_eq_true rfl, Nat.le_of_ble_eq_true rfl⟩) (fun r15 hr15 => ?_)
            rcases hr15 with hr15 | hr15 | hr15
            · skip
              obtain ⟨rfl, h16⟩ := hr15
              have h16 : nd.toInt < 16 := h16
              exact W.iret (v := 1) hx hb hr (fun t ht hW => ⟨1, rfl, by first | exact Or.inl ⟨rfl, by omega⟩ | exact Or.inr (Or.inl ⟨rfl, by omega, by omega⟩) | exact Or.inr (Or.inr (Or.inl ⟨rfl, by omega, by omega⟩)) | exact Or.inr (Or.inr (Or.inr ⟨rfl, by omega, by omega⟩)), ht⟩) (fun q hq => by cases hq) dX8_size_29
            · skip
              obtain ⟨rfl, h17, h18⟩ := hr15
              have h17 : 16 ≤ nd.toInt := h17
              have h18 : nd.toInt < 32 := h18
              exact W.iret (v := 0) hx hb hr (fun t ht hW => ⟨0, rfl, by first | exact Or.inl ⟨rfl, by omega⟩ | exact Or.inr (Or.inl ⟨rfl, by omega, by omega⟩) | exact Or.inr (Or.inr (Or.inl ⟨rfl, by omega, by omega⟩)) | exact Or.inr (Or.inr (Or.inr ⟨rfl, by omega, by omega⟩)), ht⟩) (fun q hq => by cases hq) dX8_size_29
            · skip
              obtain ⟨rfl, h19⟩ := hr15
              have h19 : nd.toInt = 32 := h19
              exact W.iret (v := 16) hx hb hr (fun t ht hW => ⟨16, rfl, by first | exact Or.inl ⟨rfl, by omega⟩ | exact Or.inr (Or.inl ⟨rfl, by omega, by omega⟩) | exact Or.inr (Or.inr (Or.inl ⟨rfl, by omega, by omega⟩)) | exact Or.inr (Or.inr (Or.inr ⟨rfl, by omega, by omega⟩)), ht⟩) (fun q hq => by cases hq) dX8_size_29
          · skip
            have ehs9 : c0.toInt = 2 := by rw [hs9]; rfl
            have qhs9 : (2 : Int32).toInt = 2 := rfl
            subst hs9
            refine va_aldq hx hb hK hP 1 4 rfl rfl (z_in (by decide : (2 : Int32).toInt = 2) (by omega) (by omega)) dX8_size_24 ?_
            refine W.eq (g2 := F0 m 25 ls [.ref c2_]) rfl ?_
            refine lv_iload_n hx hb dX8_size_25 rfl (lv_at hl 2 rfl) ?_
            have hPc := hP.sub (ws' := [(c2_, .inr (3, [.int we2, .ref c2_1, .ref c2_2, .ref c2_3, .ref c2_4, .int se2])), (c2_1, .inl (g.2 0, 32, .inl f2_1)), (c2_2, .inl (g.2 0, 33, .inl f2_2)), (c2_3, .inl (g.2 0, 33, .inl f2_3)), (c2_4, .inl (g.2 0, 16, .inl f2_4))]) [12, 13, 14, 15, 16] rfl
            refine zc_i (va_runV (As := [.int nd]) (rest := []) ⟨hx, hb, hml, hown, hg⟩ (c_X3_valuesBelow l g c2_ c2_1 c2_2 c2_3 c2_4 f2_1 f2_2 f2_3 f2_4 we2 se2 nd (by first | assumption | omega) (by first | assumption | omega) (by first | assumption | omega) (by first | omega | assumption | decide)) (cwV 1 hg (z_gV mm_540 mm_541 mm_542 mm_115 mm_543) rfl rfl rfl (by decide +kernel) ⟨Nat.le_of_ble_eq_true rfl, Nat.le_of_ble_eq_true rfl⟩) ⟨(zR.pre [.ref c2_, .int nd] hPc hK hN).1, va_recv hK hPc (ci := 3) (q0 := 0) rfl rfl, (zR.pre [.ref c2_, .int nd] hPc hK hN).2⟩ rfl rfl hl.1 rfl (lv_room (Nat.le_of_ble_eq_true rfl)) dX8_size_26 ⟨Nat.le_of_ble_eq_true rfl, Nat.le_of_ble_eq_true rfl⟩) (fun r20 hr20 => ?_)
            rcases hr20 with hr20 | hr20 | hr20
            · skip
              obtain ⟨rfl, h21⟩ := hr20
              have h21 : nd.toInt < 16 := h21
              exact W.iret (v := 1) hx hb hr (fun t ht hW => ⟨1, rfl, by first | exact Or.inl ⟨rfl, by omega⟩ | exact Or.inr (Or.inl ⟨rfl, by omega, by omega⟩) | exact Or.inr (Or.inr (Or.inl ⟨rfl, by omega, by omega⟩)) | exact Or.inr (Or.inr (Or.inr ⟨rfl, by omega, by omega⟩)), ht⟩) (fun q hq => by cases hq) dX8_size_29
            · skip
              obtain ⟨rfl, h22, h23⟩ := hr20
              have h22 : 16 ≤ nd.toInt := h22
              have h23 : nd.toInt < 32 := h23
              exact W.iret (v := 0) hx hb hr (fun t ht hW => ⟨0, rfl, by first | exact Or.inl ⟨rfl, by omega⟩ | exact Or.inr (Or.inl ⟨rfl, by omega, by omega⟩) | exact Or.inr (Or.inr (Or.inl ⟨rfl, by omega, by omega⟩)) | exact Or.inr (Or.inr (Or.inr ⟨rfl, by omega, by omega⟩)), ht⟩) (fun q hq => by cases hq) dX8_size_29
            · skip
              obtain ⟨rfl, h24⟩ := hr20
              have h24 : nd.toInt = 32 := h24
              exact W.iret (v := 16) hx hb hr (fun t ht hW => ⟨16, rfl, by first | exact Or.inl ⟨rfl, by omega⟩ | exact Or.inr (Or.inl ⟨rfl, by omega, by omega⟩) | exact Or.inr (Or.inr (Or.inl ⟨rfl, by omega, by omega⟩)) | exact Or.inr (Or.inr (Or.inr ⟨rfl, by omega, by omega⟩)), ht⟩) (fun q hq => by cases hq) dX8_size_29
          · skip
            have ehs9 : c0.toInt = 3 := by rw [hs9]; rfl
            have qhs9 : (3 : Int32).toInt = 3 := rfl
            subst hs9
            refine va_aldq hx hb hK hP 1 4 rfl rfl (z_in (by decide : (3 : Int32).toInt = 3) (by omega) (by omega)) dX8_size_24 ?_
            refine W.eq (g2 := F0 m 25 ls [.ref c3_]) rfl ?_
            refine lv_iload_n hx hb dX8_size_25 rfl (lv_at hl 2 rfl) ?_
            have hPc := hP.sub (ws' := [(c3_, .inr (3, [.int we3, .ref c3_1, .ref c3_2, .ref c3_3, .ref c3_4, .int se3])), (c3_1, .inl (g.2 0, 32, .inl f3_1)), (c3_2, .inl (g.2 0, 33, .inl f3_2)), (c3_3, .inl (g.2 0, 33, .inl f3_3)), (c3_4, .inl (g.2 0, 16, .inl f3_4))]) [17, 18, 19, 20, 21] rfl
            refine zc_i (va_runV (As := [.int nd]) (rest := []) ⟨hx, hb, hml, hown, hg⟩ (c_X3_valuesBelow l g c3_ c3_1 c3_2 c3_3 c3_4 f3_1 f3_2 f3_3 f3_4 we3 se3 nd (by first | assumption | omega) (by first | assumption | omega) (by first | assumption | omega) (by first | omega | assumption | decide)) (cwV 1 hg (z_gV mm_540 mm_541 mm_542 mm_115 mm_543) rfl rfl rfl (by decide +kernel) ⟨Nat.le_of_ble_eq_true rfl, Nat.le_of_ble_eq_true rfl⟩) ⟨(zR.pre [.ref c3_, .int nd] hPc hK hN).1, va_recv hK hPc (ci := 3) (q0 := 0) rfl rfl, (zR.pre [.ref c3_, .int nd] hPc hK hN).2⟩ rfl rfl hl.1 rfl (lv_room (Nat.le_of_ble_eq_true rfl)) dX8_size_26 ⟨Nat.le_of_ble_eq_true rfl, Nat.le_of_ble_eq_true rfl⟩) (fun r25 hr25 => ?_)
            rcases hr25 with hr25 | hr25 | hr25
            · skip
              obtain ⟨rfl, h26⟩ := hr25
              have h26 : nd.toInt < 16 := h26
              exact W.iret (v := 1) hx hb hr (fun t ht hW => ⟨1, rfl, by first | exact Or.inl ⟨rfl, by omega⟩ | exact Or.inr (Or.inl ⟨rfl, by omega, by omega⟩) | exact Or.inr (Or.inr (Or.inl ⟨rfl, by omega, by omega⟩)) | exact Or.inr (Or.inr (Or.inr ⟨rfl, by omega, by omega⟩)), ht⟩) (fun q hq => by cases hq) dX8_size_29
            · skip
              obtain ⟨rfl, h27, h28⟩ := hr25
              have h27 : 16 ≤ nd.toInt := h27
              have h28 : nd.toInt < 32 := h28
              exact W.iret (v := 0) hx hb hr (fun t ht hW => ⟨0, rfl, by first | exact Or.inl ⟨rfl, by omega⟩ | exact Or.inr (Or.inl ⟨rfl, by omega, by omega⟩) | exact Or.inr (Or.inr (Or.inl ⟨rfl, by omega, by omega⟩)) | exact Or.inr (Or.inr (Or.inr ⟨rfl, by omega, by omega⟩)), ht⟩) (fun q hq => by cases hq) dX8_size_29
            · skip
              obtain ⟨rfl, h29⟩ := hr25
              have h29 : nd.toInt = 32 := h29
              exact W.iret (v := 16) hx hb hr (fun t ht hW => ⟨16, rfl, by first | exact Or.inl ⟨rfl, by omega⟩ | exact Or.inr (Or.inl ⟨rfl, by omega, by omega⟩) | exact Or.inr (Or.inr (Or.inl ⟨rfl, by omega, by omega⟩)) | exact Or.inr (Or.inr (Or.inr ⟨rfl, by omega, by omega⟩)), ht⟩) (fun q hq => by cases hq) dX8_size_29
        · skip
          exact absurd c8 (by decide)
      · skip
        obtain ⟨rfl, h30⟩ := hr5
        have h30 : ¬ ((0 : Int) ≤ nd.toInt ∧ nd.toInt ≤ (32 : Int)) := h30
        refine lv_if_ne (tgt := 19) hx hb dX8_size_14 (by decide) (fun c31 => ?_) (fun c31 => ?_)
        · skip
          exact absurd c31 (by decide)
        · skip
          refine lv_iconst (v := (-1)) hx hb dX8_size_17 (by decide) ?_
          exact W.iret (v := (-1)) hx hb hr (fun t ht hW => ⟨(-1), rfl, by first | exact Or.inl ⟨rfl, by omega⟩ | exact Or.inr (Or.inl ⟨rfl, by omega, by omega⟩) | exact Or.inr (Or.inr (Or.inl ⟨rfl, by omega, by omega⟩)) | exact Or.inr (Or.inr (Or.inr ⟨rfl, by omega, by omega⟩)), ht⟩) (fun q hq => by cases hq) dX8_size_18
  · skip
    obtain ⟨rfl, h32⟩ := hr1
    have h32 : ¬ (0 ≤ c0.toInt ∧ c0.toInt ≤ 3) := h32
    refine lv_if_eq (tgt := 17) hx hb dX8_size_4 (by decide) (fun c33 => ?_) (fun c33 => ?_)
    · skip
      refine lv_iconst (v := (-1)) hx hb dX8_size_17 (by decide) ?_
      exact W.iret (v := (-1)) hx hb hr (fun t ht hW => ⟨(-1), rfl, by first | exact Or.inl ⟨rfl, by omega⟩ | exact Or.inr (Or.inl ⟨rfl, by omega, by omega⟩) | exact Or.inr (Or.inr (Or.inl ⟨rfl, by omega, by omega⟩)) | exact Or.inr (Or.inr (Or.inr ⟨rfl, by omega, by omega⟩)), ht⟩) (fun q hq => by cases hq) dX8_size_18
    · skip
      exact absurd c33 (by decide)

set_option maxHeartbeats 4000000 in
set_option maxRecDepth 100000 in
theorem c_X8_book (l : Launch) (g : zG) (h0 : Nat) (aC : Value) (aW : Value) (aT : Nat) (aB : Value) (aL : Value) (aG : Value) (aM : Value) (aA : Value) (aU : Value) (aE : Value) (aD : Value) (aTb : Nat) (ft : Nat → Int32) (n : Int32) (l0 : Int32) (l1 : Int32) (l2 : Int32) (l3 : Int32) : Met l yX8_book (zW yX8_book cX8_book 9 (some .int)) ({ frames := 1, cells := 0, slots := 0, locals := 22 }) (va_Pc [.ref h0, .int n, .int l0, .int l1, .int l2, .int l3] (zR g [(h0, .inr (8, [aC, aW, .ref aT, aB, aL, aG, aM, aA, aU, aE, aD, .int 0, .int 0])), (aT, .inr (7, [.int 0, .ref aTb])), (aTb, .inl (g.2 0, 200, .inl ft))])) (vp_Si (fun r : Int32 => (r = (-1)))) 0 0 (fun _ => False) := by
  refine Met.ofW (cc := cX8_book) (maxL := 9) (ret := (some .int)) (by decide) rfl ?_
  intro p e s m args below meth c s₁ B hml hv
  obtain ⟨rfl, hP, hK, hN⟩ := hv
  have hx := B.exec
  have hb := B.bytes
  have hr := B.returns
  have hg := zW.law (atoms_spec (ws := (zW yX8_book cX8_book 9 (some .int))) B.pre)
  have hown : s.vm.findClass RX8 = some m.cls := findClass_of_methodNamed B.named
  have hlocks := B.notSynchronized
  have hl := lv_entry ([.ref h0, .int n, .int l0, .int l1, .int l2, .int l3]) (n := 9) (Nat.le_of_ble_eq_true rfl)
  rw [lg_entry_eq]
  generalize (lg_sl ([.ref h0, .int n, .int l0, .int l1, .int l2, .int l3]) ++ List.replicate (9 - (lg_sl ([.ref h0, .int n, .int l0, .int l1, .int l2, .int l3])).length) Slot.unset).toArray = ls at hl ⊢
  have hl : lv_has ls 9 [(0, .ref h0), (1, .int n), (2, .int l0), (3, .int l1), (4, .int l2), (5, .int l3)] := hl
  refine lv_iload_n hx hb dX8_book_0 rfl (lv_at hl 1 rfl) ?_
  refine lv_iconst (v := 1) hx hb dX8_book_1 (by decide) ?_
  refine lv_bipush (v := 8) hx hb dX8_book_2 (by decide) ?_
  have hPc := hP.sub (ws' := []) [] rfl
  refine zc_i (va_runS (As := [.int n, .int 1, .int 8]) (rest := []) ⟨hx, hb, hml, hown, hg⟩ (c_X8_within l g n (1 : Int32) (8 : Int32) ) (va_cwS 3 hg (z_gS mm_407 mm_408 mm_108 mm_409) rfl rfl rfl (by decide +kernel) ⟨Nat.le_of_ble_eq_true rfl, Nat.le_of_ble_eq_true rfl⟩) (zR.pre [.int n, .int 1, .int 8] hPc hK hN) rfl rfl hl.1 rfl (lv_room (Nat.le_of_ble_eq_true rfl)) dX8_book_4 ⟨Nat.le_of_ble_eq_true rfl, Nat.le_of_ble_eq_true rfl⟩) (fun r1 hr1 => ?_)
  rcases hr1 with hr1 | hr1
  · skip
    obtain ⟨rfl, h2, h3⟩ := hr1
    have h2 : (1 : Int) ≤ n.toInt := h2
    have h3 : n.toInt ≤ (8 : Int) := h3
    refine lv_if_eq (tgt := 29) hx hb dX8_book_7 (by decide) (fun c4 => ?_) (fun c4 => ?_)
    · skip
      exact absurd c4 (by decide)
    · skip
      refine lv_aload_n hx hb dX8_book_10 rfl (lv_at hl 0 rfl) ?_
      refine va_get (D := g.1) (ci := 8) (v := .int 0) (C := RX8) (T := TX8) (N := 13) hx hb hg inG8 hown hK hP 0 rfl rfl 12 (by decide) (hg _ mm_372) (fun _ h9 => h9) rfl dX8_book_11 ?_
      refine lv_iconst (v := 4) hx hb dX8_book_14 (by decide) ?_
      refine lv_icmp_ge (tgt := 29) hx hb dX8_book_15 (by decide) (fun c5 => ?_) (fun c5 => ?_)
      · skip
        exact absurd c5 (by decide)
      · skip
        refine lv_aload_n hx hb dX8_book_18 rfl (lv_at hl 0 rfl) ?_
        refine va_get (D := g.1) (ci := 8) (v := .ref aT) (C := RX8) (T := TX8) (N := 13) hx hb hg inG8 hown hK hP 0 rfl rfl 2 (by decide) (hg _ mm_362) (fun _ h9 => h9) rfl dX8_book_19 ?_
        refine va_get (D := g.1) (ci := 7) (v := .int 0) (C := RX7) (T := TX7) (N := 2) hx hb hg inG7 hown hK hP 1 rfl rfl 0 (by decide) (hg _ mm_137) (fun _ h9 => h9) rfl dX8_book_22 ?_
        refine lv_iload_n hx hb dX8_book_25 rfl (lv_at hl 1 rfl) ?_
        refine lv_icmp_ge (tgt := 31) hx hb dX8_book_26 (by decide) (fun c6 => ?_) (fun c6 => ?_)
        · skip
          have c6 : n.toInt ≤ 0 := (z_le rfl (by decide : (0 : Int32).toInt = 0)).mp c6
          exfalso
          omega
        · skip
          have c6 : ¬ (n.toInt ≤ 0) := fun q => c6 ((z_le rfl (by decide : (0 : Int32).toInt = 0)).mpr q)
          refine lv_iconst (v := (-1)) hx hb dX8_book_29 (by decide) ?_
          exact W.iret (v := (-1)) hx hb hr (fun t ht hW => ⟨(-1), rfl, rfl, ht⟩) (fun q hq => by cases hq) dX8_book_30
  · skip
    obtain ⟨rfl, h7⟩ := hr1
    have h7 : ¬ ((1 : Int) ≤ n.toInt ∧ n.toInt ≤ (8 : Int)) := h7
    refine lv_if_eq (tgt := 29) hx hb dX8_book_7 (by decide) (fun c8 => ?_) (fun c8 => ?_)
    · skip
      refine lv_iconst (v := (-1)) hx hb dX8_book_29 (by decide) ?_
      exact W.iret (v := (-1)) hx hb hr (fun t ht hW => ⟨(-1), rfl, rfl, ht⟩) (fun q hq => by cases hq) dX8_book_30
    · skip
      exact absurd c8 (by decide)

set_option maxHeartbeats 4000000 in
set_option maxRecDepth 100000 in
theorem c_X8_blurring (l : Launch) (g : zG) (h0 : Nat) (aC : Value) (aW : Value) (aT : Nat) (aB : Value) (aL : Value) (aG : Value) (aM : Value) (aA : Value) (aU : Value) (aE : Value) (aD : Value) (aTb : Nat) (ft : Nat → Int32) (n : Int32) (k : Int32) (pr : Int32) (wh : Int32) : Met l yX8_blurring (zW yX8_blurring cX8_blurring 6 (some .int)) ({ frames := 2, cells := 0, slots := 0, locals := 42 }) (va_Pc [.ref h0, .int n, .int k, .int pr, .int wh] (zR g [(h0, .inr (8, [aC, aW, .ref aT, aB, aL, aG, aM, aA, aU, aE, aD, .int 0, .int 0])), (aT, .inr (7, [.int 0, .ref aTb])), (aTb, .inl (g.2 0, 200, .inl ft))])) (vp_Si (fun r : Int32 => (r = (-3)))) 0 0 (fun _ => False) := by
  refine Met.ofW (cc := cX8_blurring) (maxL := 6) (ret := (some .int)) (by decide) rfl ?_
  intro p e s m args below meth c s₁ B hml hv
  obtain ⟨rfl, hP, hK, hN⟩ := hv
  have hx := B.exec
  have hb := B.bytes
  have hr := B.returns
  have hg := zW.law (atoms_spec (ws := (zW yX8_blurring cX8_blurring 6 (some .int))) B.pre)
  have hown : s.vm.findClass RX8 = some m.cls := findClass_of_methodNamed B.named
  have hlocks := B.notSynchronized
  have hl := lv_entry ([.ref h0, .int n, .int k, .int pr, .int wh]) (n := 6) (Nat.le_of_ble_eq_true rfl)
  rw [lg_entry_eq]
  generalize (lg_sl ([.ref h0, .int n, .int k, .int pr, .int wh]) ++ List.replicate (6 - (lg_sl ([.ref h0, .int n, .int k, .int pr, .int wh])).length) Slot.unset).toArray = ls at hl ⊢
  have hl : lv_has ls 6 [(0, .ref h0), (1, .int n), (2, .int k), (3, .int pr), (4, .int wh)] := hl
  refine lv_iload_n hx hb dX8_blurring_0 rfl (lv_at hl 1 rfl) ?_
  refine lv_iconst (v := 1) hx hb dX8_blurring_1 (by decide) ?_
  refine lv_bipush (v := 8) hx hb dX8_blurring_2 (by decide) ?_
  have hPc := hP.sub (ws' := []) [] rfl
  refine zc_i (va_runS (As := [.int n, .int 1, .int 8]) (rest := []) ⟨hx, hb, hml, hown, hg⟩ (c_X8_within l g n (1 : Int32) (8 : Int32) ) (va_cwS 3 hg (z_gS mm_407 mm_408 mm_108 mm_409) rfl rfl rfl (by decide +kernel) ⟨Nat.le_of_ble_eq_true rfl, Nat.le_of_ble_eq_true rfl⟩) (zR.pre [.int n, .int 1, .int 8] hPc hK hN) rfl rfl hl.1 rfl (lv_room (Nat.le_of_ble_eq_true rfl)) dX8_blurring_4 ⟨Nat.le_of_ble_eq_true rfl, Nat.le_of_ble_eq_true rfl⟩) (fun r1 hr1 => ?_)
  rcases hr1 with hr1 | hr1
  · skip
    obtain ⟨rfl, h2, h3⟩ := hr1
    have h2 : (1 : Int) ≤ n.toInt := h2
    have h3 : n.toInt ≤ (8 : Int) := h3
    refine lv_if_eq (tgt := 28) hx hb dX8_blurring_7 (by decide) (fun c4 => ?_) (fun c4 => ?_)
    · skip
      exact absurd c4 (by decide)
    · skip
      refine lv_iload_n hx hb dX8_blurring_10 rfl (lv_at hl 2 rfl) ?_
      have hPc := hP.sub (ws' := []) [] rfl
      refine zc_i (va_runS (As := [.int k]) (rest := []) ⟨hx, hb, hml, hown, hg⟩ (c_X8_isBar l g k ) (va_cwS 1 hg (z_gS mm_772 mm_773 mm_108 mm_774) rfl rfl rfl (by decide +kernel) ⟨Nat.le_of_ble_eq_true rfl, Nat.le_of_ble_eq_true rfl⟩) (zR.pre [.int k] hPc hK hN) rfl rfl hl.1 rfl (lv_room (Nat.le_of_ble_eq_true rfl)) dX8_blurring_11 ⟨Nat.le_of_ble_eq_true rfl, Nat.le_of_ble_eq_true rfl⟩) (fun r5 hr5 => ?_)
      rcases hr5 with hr5 | hr5
      · skip
        obtain ⟨rfl, h6, h7⟩ := hr5
        have h6 : 1 ≤ k.toInt := h6
        have h7 : k.toInt ≤ 16 := h7
        refine lv_if_eq (tgt := 28) hx hb dX8_blurring_14 (by decide) (fun c8 => ?_) (fun c8 => ?_)
        · skip
          exact absurd c8 (by decide)
        · skip
          refine lv_iload_n hx hb dX8_blurring_17 rfl (lv_at hl 3 rfl) ?_
          refine lv_iconst (v := 0) hx hb dX8_blurring_18 (by decide) ?_
          refine lv_sipush (v := 9999) hx hb dX8_blurring_19 (by decide) ?_
          have hPc := hP.sub (ws' := []) [] rfl
          refine zc_i (va_runS (As := [.int pr, .int 0, .int 9999]) (rest := []) ⟨hx, hb, hml, hown, hg⟩ (c_X8_within l g pr (0 : Int32) (9999 : Int32) ) (va_cwS 3 hg (z_gS mm_407 mm_408 mm_108 mm_409) rfl rfl rfl (by decide +kernel) ⟨Nat.le_of_ble_eq_true rfl, Nat.le_of_ble_eq_true rfl⟩) (zR.pre [.int pr, .int 0, .int 9999] hPc hK hN) rfl rfl hl.1 rfl (lv_room (Nat.le_of_ble_eq_true rfl)) dX8_blurring_22 ⟨Nat.le_of_ble_eq_true rfl, Nat.le_of_ble_eq_true rfl⟩) (fun r9 hr9 => ?_)
          rcases hr9 with hr9 | hr9
          · skip
            obtain ⟨rfl, h10, h11⟩ := hr9
            have h10 : (0 : Int) ≤ pr.toInt := h10
            have h11 : pr.toInt ≤ (9999 : Int) := h11
            refine lv_if_ne (tgt := 31) hx hb dX8_blurring_25 (by decide) (fun c12 => ?_) (fun c12 => ?_)
            · skip
              refine lv_iload hx hb dX8_blurring_31 (lv_at hl 4 rfl) ?_
              refine lv_iconst (v := (-1)) hx hb dX8_blurring_33 (by decide) ?_
              refine lv_iconst (v := 4) hx hb dX8_blurring_34 (by decide) ?_
              have hPc := hP.sub (ws' := []) [] rfl
              refine zc_i (va_runS (As := [.int wh, .int (-1), .int 4]) (rest := []) ⟨hx, hb, hml, hown, hg⟩ (c_X8_within l g wh (-1 : Int32) (4 : Int32) ) (va_cwS 3 hg (z_gS mm_407 mm_408 mm_108 mm_409) rfl rfl rfl (by decide +kernel) ⟨Nat.le_of_ble_eq_true rfl, Nat.le_of_ble_eq_true rfl⟩) (zR.pre [.int wh, .int (-1), .int 4] hPc hK hN) rfl rfl hl.1 rfl (lv_room (Nat.le_of_ble_eq_true rfl)) dX8_blurring_35 ⟨Nat.le_of_ble_eq_true rfl, Nat.le_of_ble_eq_true rfl⟩) (fun r13 hr13 => ?_)
              rcases hr13 with hr13 | hr13
              · skip
                obtain ⟨rfl, h14, h15⟩ := hr13
                have h14 : (-1 : Int) ≤ wh.toInt := h14
                have h15 : wh.toInt ≤ (4 : Int) := h15
                refine lv_if_eq (tgt := 52) hx hb dX8_blurring_38 (by decide) (fun c16 => ?_) (fun c16 => ?_)
                · skip
                  exact absurd c16 (by decide)
                · skip
                  refine lv_aload_n hx hb dX8_blurring_41 rfl (lv_at hl 0 rfl) ?_
                  refine va_get (D := g.1) (ci := 8) (v := .ref aT) (C := RX8) (T := TX8) (N := 13) hx hb hg inG8 hown hK hP 0 rfl rfl 2 (by decide) (hg _ mm_362) (fun _ h9 => h9) rfl dX8_blurring_42 ?_
                  refine va_get (D := g.1) (ci := 7) (v := .int 0) (C := RX7) (T := TX7) (N := 2) hx hb hg inG7 hown hK hP 1 rfl rfl 0 (by decide) (hg _ mm_137) (fun _ h9 => h9) rfl dX8_blurring_45 ?_
                  refine lv_iload_n hx hb dX8_blurring_48 rfl (lv_at hl 1 rfl) ?_
                  refine lv_icmp_ge (tgt := 55) hx hb dX8_blurring_49 (by decide) (fun c17 => ?_) (fun c17 => ?_)
                  · skip
                    have c17 : n.toInt ≤ 0 := (z_le rfl (by decide : (0 : Int32).toInt = 0)).mp c17
                    exfalso
                    omega
                  · skip
                    have c17 : ¬ (n.toInt ≤ 0) := fun q => c17 ((z_le rfl (by decide : (0 : Int32).toInt = 0)).mpr q)
                    refine lv_bipush (v := (-3)) hx hb dX8_blurring_52 (by decide) ?_
                    exact W.iret (v := (-3)) hx hb hr (fun t ht hW => ⟨(-3), rfl, rfl, ht⟩) (fun q hq => by cases hq) dX8_blurring_54
              · skip
                obtain ⟨rfl, h18⟩ := hr13
                have h18 : ¬ ((-1 : Int) ≤ wh.toInt ∧ wh.toInt ≤ (4 : Int)) := h18
                refine lv_if_eq (tgt := 52) hx hb dX8_blurring_38 (by decide) (fun c19 => ?_) (fun c19 => ?_)
                · skip
                  refine lv_bipush (v := (-3)) hx hb dX8_blurring_52 (by decide) ?_
                  exact W.iret (v := (-3)) hx hb hr (fun t ht hW => ⟨(-3), rfl, rfl, ht⟩) (fun q hq => by cases hq) dX8_blurring_54
                · skip
                  exact absurd c19 (by decide)
            · skip
              exact absurd c12 (by decide)
          · skip
            obtain ⟨rfl, h20⟩ := hr9
            have h20 : ¬ ((0 : Int) ≤ pr.toInt ∧ pr.toInt ≤ (9999 : Int)) := h20
            refine lv_if_ne (tgt := 31) hx hb dX8_blurring_25 (by decide) (fun c21 => ?_) (fun c21 => ?_)
            · skip
              exact absurd c21 (by decide)
            · skip
              refine lv_bipush (v := (-3)) hx hb dX8_blurring_28 (by decide) ?_
              exact W.iret (v := (-3)) hx hb hr (fun t ht hW => ⟨(-3), rfl, rfl, ht⟩) (fun q hq => by cases hq) dX8_blurring_30
      · skip
        obtain ⟨rfl, h22⟩ := hr5
        have h22 : ¬ (1 ≤ k.toInt ∧ k.toInt ≤ 16) := h22
        refine lv_if_eq (tgt := 28) hx hb dX8_blurring_14 (by decide) (fun c23 => ?_) (fun c23 => ?_)
        · skip
          refine lv_bipush (v := (-3)) hx hb dX8_blurring_28 (by decide) ?_
          exact W.iret (v := (-3)) hx hb hr (fun t ht hW => ⟨(-3), rfl, rfl, ht⟩) (fun q hq => by cases hq) dX8_blurring_30
        · skip
          exact absurd c23 (by decide)
  · skip
    obtain ⟨rfl, h24⟩ := hr1
    have h24 : ¬ ((1 : Int) ≤ n.toInt ∧ n.toInt ≤ (8 : Int)) := h24
    refine lv_if_eq (tgt := 28) hx hb dX8_blurring_7 (by decide) (fun c25 => ?_) (fun c25 => ?_)
    · skip
      refine lv_bipush (v := (-3)) hx hb dX8_blurring_28 (by decide) ?_
      exact W.iret (v := (-3)) hx hb hr (fun t ht hW => ⟨(-3), rfl, rfl, ht⟩) (fun q hq => by cases hq) dX8_blurring_30
    · skip
      exact absurd c25 (by decide)

set_option maxHeartbeats 4000000 in
set_option maxRecDepth 100000 in
theorem c_X8_toldGossips (l : Launch) (g : zG) (h0 : Nat) (aC : Value) (aW : Value) (aT : Value) (aB : Value) (aL : Value) (aG : Nat) (aM : Value) (aA : Value) (aU : Value) (aE : Value) (aD : Value) (g0_ : Nat) (g0v1 : Value) (g0v2 : Value) (g0v3 : Value) (g0v4 : Value) (g0v5 : Value) (g0v6 : Value) (g0v7 : Value) (g0v8 : Value) (g0v9 : Value) (g0v10 : Value) (g1_ : Nat) (g1v1 : Value) (g1v2 : Value) (g1v3 : Value) (g1v4 : Value) (g1v5 : Value) (g1v6 : Value) (g1v7 : Value) (g1v8 : Value) (g1v9 : Value) (g1v10 : Value) (g2_ : Nat) (g2v1 : Value) (g2v2 : Value) (g2v3 : Value) (g2v4 : Value) (g2v5 : Value) (g2v6 : Value) (g2v7 : Value) (g2v8 : Value) (g2v9 : Value) (g2v10 : Value) (g3_ : Nat) (g3v1 : Value) (g3v2 : Value) (g3v3 : Value) (g3v4 : Value) (g3v5 : Value) (g3v6 : Value) (g3v7 : Value) (g3v8 : Value) (g3v9 : Value) (g3v10 : Value) (g4_ : Nat) (g4v1 : Value) (g4v2 : Value) (g4v3 : Value) (g4v4 : Value) (g4v5 : Value) (g4v6 : Value) (g4v7 : Value) (g4v8 : Value) (g4v9 : Value) (g4v10 : Value) (g5_ : Nat) (g5v1 : Value) (g5v2 : Value) (g5v3 : Value) (g5v4 : Value) (g5v5 : Value) (g5v6 : Value) (g5v7 : Value) (g5v8 : Value) (g5v9 : Value) (g5v10 : Value) (g6_ : Nat) (g6v1 : Value) (g6v2 : Value) (g6v3 : Value) (g6v4 : Value) (g6v5 : Value) (g6v6 : Value) (g6v7 : Value) (g6v8 : Value) (g6v9 : Value) (g6v10 : Value) (g7_ : Nat) (g7v1 : Value) (g7v2 : Value) (g7v3 : Value) (g7v4 : Value) (g7v5 : Value) (g7v6 : Value) (g7v7 : Value) (g7v8 : Value) (g7v9 : Value) (g7v10 : Value) : Met l yX8_toldGossips (zW yX8_toldGossips cX8_toldGossips 3 (some .int)) ({ frames := 0, cells := 0, slots := 0, locals := 0 }) (va_Pc [.ref h0] (zR g [(h0, .inr (8, [aC, aW, aT, aB, aL, .ref aG, aM, aA, aU, aE, aD, .int 0, .int 0])), (aG, .inl (g.2 6, 8, .inr (.inr (.inr (.inr (zS [some g0_, some g1_, some g2_, some g3_, some g4_, some g5_, some g6_, some g7_])))))), (g0_, .inr (4, [.int 0, g0v1, g0v2, g0v3, g0v4, g0v5, g0v6, g0v7, g0v8, g0v9, g0v10])), (g1_, .inr (4, [.int 0, g1v1, g1v2, g1v3, g1v4, g1v5, g1v6, g1v7, g1v8, g1v9, g1v10])), (g2_, .inr (4, [.int 0, g2v1, g2v2, g2v3, g2v4, g2v5, g2v6, g2v7, g2v8, g2v9, g2v10])), (g3_, .inr (4, [.int 0, g3v1, g3v2, g3v3, g3v4, g3v5, g3v6, g3v7, g3v8, g3v9, g3v10])), (g4_, .inr (4, [.int 0, g4v1, g4v2, g4v3, g4v4, g4v5, g4v6, g4v7, g4v8, g4v9, g4v10])), (g5_, .inr (4, [.int 0, g5v1, g5v2, g5v3, g5v4, g5v5, g5v6, g5v7, g5v8, g5v9, g5v10])), (g6_, .inr (4, [.int 0, g6v1, g6v2, g6v3, g6v4, g6v5, g6v6, g6v7, g6v8, g6v9, g6v10])), (g7_, .inr (4, [.int 0, g7v1, g7v2, g7v3, g7v4, g7v5, g7v6, g7v7, g7v8, g7v9, g7v10]))])) (vp_Si (fun r : Int32 => (r = 0))) 0 0 (fun _ => False) := by
  refine Met.ofW (cc := cX8_toldGossips) (maxL := 3) (ret := (some .int)) (by decide) rfl ?_
  intro p e s m args below meth c s₁ B hml hv
  obtain ⟨rfl, hP, hK, hN⟩ := hv
  have hx := B.exec
  have hb := B.bytes
  have hr := B.returns
  have hg := zW.law (atoms_spec (ws := (zW yX8_toldGossips cX8_toldGossips 3 (some .int))) B.pre)
  have hown : s.vm.findClass RX8 = some m.cls := findClass_of_methodNamed B.named
  have hlocks := B.notSynchronized
  have hl := lv_entry ([.ref h0]) (n := 3) (Nat.le_of_ble_eq_true rfl)
  rw [lg_entry_eq]
  generalize (lg_sl ([.ref h0]) ++ List.replicate (3 - (lg_sl ([.ref h0])).length) Slot.unset).toArray = ls at hl ⊢
  have hl : lv_has ls 3 [(0, .ref h0)] := hl
  refine lv_iconst (v := 0) hx hb dX8_toldGossips_0 (by decide) ?_
  refine lv_istore_n (lv' := [(1, .int 0), (0, .ref h0)]) hx hb dX8_toldGossips_1 rfl hl (by decide) rfl (fun ls hl => ?_)
  refine lv_iconst (v := 0) hx hb dX8_toldGossips_2 (by decide) ?_
  refine lv_istore_n (lv' := [(2, .int 0), (1, .int 0), (0, .ref h0)]) hx hb dX8_toldGossips_3 rfl hl (by decide) rfl (fun ls hl => ?_)
  refine lv_iload_n hx hb dX8_toldGossips_4 rfl (lv_at hl 0 rfl) ?_
  refine lv_bipush (v := 8) hx hb dX8_toldGossips_5 (by decide) ?_
  refine lv_icmp_ge (tgt := 34) hx hb dX8_toldGossips_7 (by decide) (fun c1 => ?_) (fun c1 => ?_)
  · skip
    exact absurd c1 (by decide)
  · skip
    refine lv_aload_n hx hb dX8_toldGossips_10 rfl (lv_at hl 2 rfl) ?_
    refine va_get (D := g.1) (ci := 8) (v := .ref aG) (C := RX8) (T := TX8) (N := 13) hx hb hg inG8 hown hK hP 0 rfl rfl 5 (by decide) (hg _ mm_365) (fun _ h9 => h9) rfl dX8_toldGossips_11 ?_
    refine lv_iload_n hx hb dX8_toldGossips_14 rfl (lv_at hl 0 rfl) ?_
    refine va_aldq hx hb hK hP 1 6 rfl rfl (z_in (by decide : (0 : Int32).toInt = 0) (by omega) (by omega)) dX8_toldGossips_15 ?_
    refine W.eq (g2 := F0 m 16 ls [.ref g0_]) rfl ?_
    refine va_get (D := g.1) (ci := 4) (v := .int 0) (C := RX4) (T := TX4) (N := 11) hx hb hg inG4 hown hK hP 2 rfl rfl 0 (by decide) (hg _ mm_272) (fun _ h9 => h9) rfl dX8_toldGossips_16 ?_
    refine lv_if_eq (tgt := 28) hx hb dX8_toldGossips_19 (by decide) (fun c2 => ?_) (fun c2 => ?_)
    · skip
      refine lv_iinc (v := 1) (lv' := [(2, .int 1), (1, .int 0), (0, .ref h0)]) hx hb dX8_toldGossips_28 hl (k := 0) rfl (by decide) (by decide) rfl (fun ls hl => ?_)
      refine lv_goto (tgt := 4) hx hb dX8_toldGossips_31 (by decide) ?_
      refine lv_iload_n hx hb dX8_toldGossips_4 rfl (lv_at hl 0 rfl) ?_
      refine lv_bipush (v := 8) hx hb dX8_toldGossips_5 (by decide) ?_
      refine lv_icmp_ge (tgt := 34) hx hb dX8_toldGossips_7 (by decide) (fun c3 => ?_) (fun c3 => ?_)
      · skip
        exact absurd c3 (by decide)
      · skip
        refine lv_aload_n hx hb dX8_toldGossips_10 rfl (lv_at hl 2 rfl) ?_
        refine va_get (D := g.1) (ci := 8) (v := .ref aG) (C := RX8) (T := TX8) (N := 13) hx hb hg inG8 hown hK hP 0 rfl rfl 5 (by decide) (hg _ mm_365) (fun _ h9 => h9) rfl dX8_toldGossips_11 ?_
        refine lv_iload_n hx hb dX8_toldGossips_14 rfl (lv_at hl 0 rfl) ?_
        refine va_aldq hx hb hK hP 1 6 rfl rfl (z_in (by decide : (1 : Int32).toInt = 1) (by omega) (by omega)) dX8_toldGossips_15 ?_
        refine W.eq (g2 := F0 m 16 ls [.ref g1_]) rfl ?_
        refine va_get (D := g.1) (ci := 4) (v := .int 0) (C := RX4) (T := TX4) (N := 11) hx hb hg inG4 hown hK hP 3 rfl rfl 0 (by decide) (hg _ mm_272) (fun _ h9 => h9) rfl dX8_toldGossips_16 ?_
        refine lv_if_eq (tgt := 28) hx hb dX8_toldGossips_19 (by decide) (fun c4 => ?_) (fun c4 => ?_)
        · skip
          refine lv_iinc (v := 2) (lv' := [(2, .int 2), (1, .int 0), (0, .ref h0)]) hx hb dX8_toldGossips_28 hl (k := 0) rfl (by decide) (by decide) rfl (fun ls hl => ?_)
          refine lv_goto (tgt := 4) hx hb dX8_toldGossips_31 (by decide) ?_
          refine lv_iload_n hx hb dX8_toldGossips_4 rfl (lv_at hl 0 rfl) ?_
          refine lv_bipush (v := 8) hx hb dX8_toldGossips_5 (by decide) ?_
          refine lv_icmp_ge (tgt := 34) hx hb dX8_toldGossips_7 (by decide) (fun c5 => ?_) (fun c5 => ?_)
          · skip
            exact absurd c5 (by decide)
          · skip
            refine lv_aload_n hx hb dX8_toldGossips_10 rfl (lv_at hl 2 rfl) ?_
            refine va_get (D := g.1) (ci := 8) (v := .ref aG) (C := RX8) (T := TX8) (N := 13) hx hb hg inG8 hown hK hP 0 rfl rfl 5 (by decide) (hg _ mm_365) (fun _ h9 => h9) rfl dX8_toldGossips_11 ?_
            refine lv_iload_n hx hb dX8_toldGossips_14 rfl (lv_at hl 0 rfl) ?_
            refine va_aldq hx hb hK hP 1 6 rfl rfl (z_in (by decide : (2 : Int32).toInt = 2) (by omega) (by omega)) dX8_toldGossips_15 ?_
            refine W.eq (g2 := F0 m 16 ls [.ref g2_]) rfl ?_
            refine va_get (D := g.1) (ci := 4) (v := .int 0) (C := RX4) (T := TX4) (N := 11) hx hb hg inG4 hown hK hP 4 rfl rfl 0 (by decide) (hg _ mm_272) (fun _ h9 => h9) rfl dX8_toldGossips_16 ?_
            refine lv_if_eq (tgt := 28) hx hb dX8_toldGossips_19 (by decide) (fun c6 => ?_) (fun c6 => ?_)
            · skip
              refine lv_iinc (v := 3) (lv' := [(2, .int 3), (1, .int 0), (0, .ref h0)]) hx hb dX8_toldGossips_28 hl (k := 0) rfl (by decide) (by decide) rfl (fun ls hl => ?_)
              refine lv_goto (tgt := 4) hx hb dX8_toldGossips_31 (by decide) ?_
              refine lv_iload_n hx hb dX8_toldGossips_4 rfl (lv_at hl 0 rfl) ?_
              refine lv_bipush (v := 8) hx hb dX8_toldGossips_5 (by decide) ?_
              refine lv_icmp_ge (tgt := 34) hx hb dX8_toldGossips_7 (by decide) (fun c7 => ?_) (fun c7 => ?_)
              · skip
                exact absurd c7 (by decide)
              · skip
                refine lv_aload_n hx hb dX8_toldGossips_10 rfl (lv_at hl 2 rfl) ?_
                refine va_get (D := g.1) (ci := 8) (v := .ref aG) (C := RX8) (T := TX8) (N := 13) hx hb hg inG8 hown hK hP 0 rfl rfl 5 (by decide) (hg _ mm_365) (fun _ h9 => h9) rfl dX8_toldGossips_11 ?_
                refine lv_iload_n hx hb dX8_toldGossips_14 rfl (lv_at hl 0 rfl) ?_
                refine va_aldq hx hb hK hP 1 6 rfl rfl (z_in (by decide : (3 : Int32).toInt = 3) (by omega) (by omega)) dX8_toldGossips_15 ?_
                refine W.eq (g2 := F0 m 16 ls [.ref g3_]) rfl ?_
                refine va_get (D := g.1) (ci := 4) (v := .int 0) (C := RX4) (T := TX4) (N := 11) hx hb hg inG4 hown hK hP 5 rfl rfl 0 (by decide) (hg _ mm_272) (fun _ h9 => h9) rfl dX8_toldGossips_16 ?_
                refine lv_if_eq (tgt := 28) hx hb dX8_toldGossips_19 (by decide) (fun c8 => ?_) (fun c8 => ?_)
                · skip
                  refine lv_iinc (v := 4) (lv' := [(2, .int 4), (1, .int 0), (0, .ref h0)]) hx hb dX8_toldGossips_28 hl (k := 0) rfl (by decide) (by decide) rfl (fun ls hl => ?_)
                  refine lv_goto (tgt := 4) hx hb dX8_toldGossips_31 (by decide) ?_
                  refine lv_iload_n hx hb dX8_toldGossips_4 rfl (lv_at hl 0 rfl) ?_
                  refine lv_bipush (v := 8) hx hb dX8_toldGossips_5 (by decide) ?_
                  refine lv_icmp_ge (tgt := 34) hx hb dX8_toldGossips_7 (by decide) (fun c9 => ?_) (fun c9 => ?_)
                  · skip
                    exact absurd c9 (by decide)
                  · skip
                    refine lv_aload_n hx hb dX8_toldGossips_10 rfl (lv_at hl 2 rfl) ?_
                    refine va_get (D := g.1) (ci := 8) (v := .ref aG) (C := RX8) (T := TX8) (N := 13) hx hb hg inG8 hown hK hP 0 rfl rfl 5 (by decide) (hg _ mm_365) (fun _ h9 => h9) rfl dX8_toldGossips_11 ?_
                    refine lv_iload_n hx hb dX8_toldGossips_14 rfl (lv_at hl 0 rfl) ?_
                    refine va_aldq hx hb hK hP 1 6 rfl rfl (z_in (by decide : (4 : Int32).toInt = 4) (by omega) (by omega)) dX8_toldGossips_15 ?_
                    refine W.eq (g2 := F0 m 16 ls [.ref g4_]) rfl ?_
                    refine va_get (D := g.1) (ci := 4) (v := .int 0) (C := RX4) (T := TX4) (N := 11) hx hb hg inG4 hown hK hP 6 rfl rfl 0 (by decide) (hg _ mm_272) (fun _ h9 => h9) rfl dX8_toldGossips_16 ?_
                    refine lv_if_eq (tgt := 28) hx hb dX8_toldGossips_19 (by decide) (fun c10 => ?_) (fun c10 => ?_)
                    · skip
                      refine lv_iinc (v := 5) (lv' := [(2, .int 5), (1, .int 0), (0, .ref h0)]) hx hb dX8_toldGossips_28 hl (k := 0) rfl (by decide) (by decide) rfl (fun ls hl => ?_)
                      refine lv_goto (tgt := 4) hx hb dX8_toldGossips_31 (by decide) ?_
                      refine lv_iload_n hx hb dX8_toldGossips_4 rfl (lv_at hl 0 rfl) ?_
                      refine lv_bipush (v := 8) hx hb dX8_toldGossips_5 (by decide) ?_
                      refine lv_icmp_ge (tgt := 34) hx hb dX8_toldGossips_7 (by decide) (fun c11 => ?_) (fun c11 => ?_)
                      · skip
                        exact absurd c11 (by decide)
                      · skip
                        refine lv_aload_n hx hb dX8_toldGossips_10 rfl (lv_at hl 2 rfl) ?_
                        refine va_get (D := g.1) (ci := 8) (v := .ref aG) (C := RX8) (T := TX8) (N := 13) hx hb hg inG8 hown hK hP 0 rfl rfl 5 (by decide) (hg _ mm_365) (fun _ h9 => h9) rfl dX8_toldGossips_11 ?_
                        refine lv_iload_n hx hb dX8_toldGossips_14 rfl (lv_at hl 0 rfl) ?_
                        refine va_aldq hx hb hK hP 1 6 rfl rfl (z_in (by decide : (5 : Int32).toInt = 5) (by omega) (by omega)) dX8_toldGossips_15 ?_
                        refine W.eq (g2 := F0 m 16 ls [.ref g5_]) rfl ?_
                        refine va_get (D := g.1) (ci := 4) (v := .int 0) (C := RX4) (T := TX4) (N := 11) hx hb hg inG4 hown hK hP 7 rfl rfl 0 (by decide) (hg _ mm_272) (fun _ h9 => h9) rfl dX8_toldGossips_16 ?_
                        refine lv_if_eq (tgt := 28) hx hb dX8_toldGossips_19 (by decide) (fun c12 => ?_) (fun c12 => ?_)
                        · skip
                          refine lv_iinc (v := 6) (lv' := [(2, .int 6), (1, .int 0), (0, .ref h0)]) hx hb dX8_toldGossips_28 hl (k := 0) rfl (by decide) (by decide) rfl (fun ls hl => ?_)
                          refine lv_goto (tgt := 4) hx hb dX8_toldGossips_31 (by decide) ?_
                          refine lv_iload_n hx hb dX8_toldGossips_4 rfl (lv_at hl 0 rfl) ?_
                          refine lv_bipush (v := 8) hx hb dX8_toldGossips_5 (by decide) ?_
                          refine lv_icmp_ge (tgt := 34) hx hb dX8_toldGossips_7 (by decide) (fun c13 => ?_) (fun c13 => ?_)
                          · skip
                            exact absurd c13 (by decide)
                          · skip
                            refine lv_aload_n hx hb dX8_toldGossips_10 rfl (lv_at hl 2 rfl) ?_
                            refine va_get (D := g.1) (ci := 8) (v := .ref aG) (C := RX8) (T := TX8) (N := 13) hx hb hg inG8 hown hK hP 0 rfl rfl 5 (by decide) (hg _ mm_365) (fun _ h9 => h9) rfl dX8_toldGossips_11 ?_
                            refine lv_iload_n hx hb dX8_toldGossips_14 rfl (lv_at hl 0 rfl) ?_
                            refine va_aldq hx hb hK hP 1 6 rfl rfl (z_in (by decide : (6 : Int32).toInt = 6) (by omega) (by omega)) dX8_toldGossips_15 ?_
                            refine W.eq (g2 := F0 m 16 ls [.ref g6_]) rfl ?_
                            refine va_get (D := g.1) (ci := 4) (v := .int 0) (C := RX4) (T := TX4) (N := 11) hx hb hg inG4 hown hK hP 8 rfl rfl 0 (by decide) (hg _ mm_272) (fun _ h9 => h9) rfl dX8_toldGossips_16 ?_
                            refine lv_if_eq (tgt := 28) hx hb dX8_toldGossips_19 (by decide) (fun c14 => ?_) (fun c14 => ?_)
                            · skip
                              refine lv_iinc (v := 7) (lv' := [(2, .int 7), (1, .int 0), (0, .ref h0)]) hx hb dX8_toldGossips_28 hl (k := 0) rfl (by decide) (by decide) rfl (fun ls hl => ?_)
                              refine lv_goto (tgt := 4) hx hb dX8_toldGossips_31 (by decide) ?_
                              refine lv_iload_n hx hb dX8_toldGossips_4 rfl (lv_at hl 0 rfl) ?_
                              refine lv_bipush (v := 8) hx hb dX8_toldGossips_5 (by decide) ?_
                              refine lv_icmp_ge (tgt := 34) hx hb dX8_toldGossips_7 (by decide) (fun c15 => ?_) (fun c15 => ?_)
                              · skip
                                exact absurd c15 (by decide)
                              · skip
                                refine lv_aload_n hx hb dX8_toldGossips_10 rfl (lv_at hl 2 rfl) ?_
                                refine va_get (D := g.1) (ci := 8) (v := .ref aG) (C := RX8) (T := TX8) (N := 13) hx hb hg inG8 hown hK hP 0 rfl rfl 5 (by decide) (hg _ mm_365) (fun _ h9 => h9) rfl dX8_toldGossips_11 ?_
                                refine lv_iload_n hx hb dX8_toldGossips_14 rfl (lv_at hl 0 rfl) ?_
                                refine va_aldq hx hb hK hP 1 6 rfl rfl (z_in (by decide : (7 : Int32).toInt = 7) (by omega) (by omega)) dX8_toldGossips_15 ?_
                                refine W.eq (g2 := F0 m 16 ls [.ref g7_]) rfl ?_
                                refine va_get (D := g.1) (ci := 4) (v := .int 0) (C := RX4) (T := TX4) (N := 11) hx hb hg inG4 hown hK hP 9 rfl rfl 0 (by decide) (hg _ mm_272) (fun _ h9 => h9) rfl dX8_toldGossips_16 ?_
                                refine lv_if_eq (tgt := 28) hx hb dX8_toldGossips_19 (by decide) (fun c16 => ?_) (fun c16 => ?_)
                                · skip
                                  refine lv_iinc (v := 8) (lv' := [(2, .int 8), (1, .int 0), (0, .ref h0)]) hx hb dX8_toldGossips_28 hl (k := 0) rfl (by decide) (by decide) rfl (fun ls hl => ?_)
                                  refine lv_goto (tgt := 4) hx hb dX8_toldGossips_31 (by decide) ?_
                                  refine lv_iload_n hx hb dX8_toldGossips_4 rfl (lv_at hl 0 rfl) ?_
                                  refine lv_bipush (v := 8) hx hb dX8_toldGossips_5 (by decide) ?_
                                  refine lv_icmp_ge (tgt := 34) hx hb dX8_toldGossips_7 (by decide) (fun c17 => ?_) (fun c17 => ?_)
                                  · skip
                                    refine lv_iload_n hx hb dX8_toldGossips_34 rfl (lv_at hl 1 rfl) ?_
                                    exact W.iret (v := 0) hx hb hr (fun t ht hW => ⟨0, rfl, rfl, ht⟩) (fun q hq => by cases hq) dX8_toldGossips_35
                                  · skip
                                    exact absurd c17 (by decide)
                                · skip
                                  exact absurd c16 (by decide)
                            · skip
                              exact absurd c14 (by decide)
                        · skip
                          exact absurd c12 (by decide)
                    · skip
                      exact absurd c10 (by decide)
                · skip
                  exact absurd c8 (by decide)
            · skip
              exact absurd c6 (by decide)
        · skip
          exact absurd c4 (by decide)
    · skip
      exact absurd c2 (by decide)

set_option maxHeartbeats 4000000 in
set_option maxRecDepth 100000 in
theorem c_X8_count (l : Launch) (g : zG) (h0 : Nat) (aC : Nat) (aW : Value) (aT : Nat) (aB : Value) (aL : Nat) (aG : Nat) (aM : Value) (aA : Value) (aU : Value) (aE : Value) (aD : Value) (c0_ : Nat) (c0_1 : Nat) (c0_2 : Nat) (c0_3 : Nat) (c0_4 : Nat) (f0_1 : Nat → Int32) (f0_2 : Nat → Int32) (f0_3 : Nat → Int32) (f0_4 : Nat → Int32) (we0 : Int32) (se0 : Int32) (c1_ : Nat) (c1_1 : Nat) (c1_2 : Nat) (c1_3 : Nat) (c1_4 : Nat) (f1_1 : Nat → Int32) (f1_2 : Nat → Int32) (f1_3 : Nat → Int32) (f1_4 : Nat → Int32) (we1 : Int32) (se1 : Int32) (c2_ : Nat) (c2_1 : Nat) (c2_2 : Nat) (c2_3 : Nat) (c2_4 : Nat) (f2_1 : Nat → Int32) (f2_2 : Nat → Int32) (f2_3 : Nat → Int32) (f2_4 : Nat → Int32) (we2 : Int32) (se2 : Int32) (c3_ : Nat) (c3_1 : Nat) (c3_2 : Nat) (c3_3 : Nat) (c3_4 : Nat) (f3_1 : Nat → Int32) (f3_2 : Nat → Int32) (f3_3 : Nat → Int32) (f3_4 : Nat → Int32) (we3 : Int32) (se3 : Int32) (aTb : Nat) (ft : Nat → Int32) (l1 : Value) (l2 : Value) (g0_ : Nat) (g0v1 : Value) (g0v2 : Value) (g0v3 : Value) (g0v4 : Value) (g0v5 : Value) (g0v6 : Value) (g0v7 : Value) (g0v8 : Value) (g0v9 : Value) (g0v10 : Value) (g1_ : Nat) (g1v1 : Value) (g1v2 : Value) (g1v3 : Value) (g1v4 : Value) (g1v5 : Value) (g1v6 : Value) (g1v7 : Value) (g1v8 : Value) (g1v9 : Value) (g1v10 : Value) (g2_ : Nat) (g2v1 : Value) (g2v2 : Value) (g2v3 : Value) (g2v4 : Value) (g2v5 : Value) (g2v6 : Value) (g2v7 : Value) (g2v8 : Value) (g2v9 : Value) (g2v10 : Value) (g3_ : Nat) (g3v1 : Value) (g3v2 : Value) (g3v3 : Value) (g3v4 : Value) (g3v5 : Value) (g3v6 : Value) (g3v7 : Value) (g3v8 : Value) (g3v9 : Value) (g3v10 : Value) (g4_ : Nat) (g4v1 : Value) (g4v2 : Value) (g4v3 : Value) (g4v4 : Value) (g4v5 : Value) (g4v6 : Value) (g4v7 : Value) (g4v8 : Value) (g4v9 : Value) (g4v10 : Value) (g5_ : Nat) (g5v1 : Value) (g5v2 : Value) (g5v3 : Value) (g5v4 : Value) (g5v5 : Value) (g5v6 : Value) (g5v7 : Value) (g5v8 : Value) (g5v9 : Value) (g5v10 : Value) (g6_ : Nat) (g6v1 : Value) (g6v2 : Value) (g6v3 : Value) (g6v4 : Value) (g6v5 : Value) (g6v6 : Value) (g6v7 : Value) (g6v8 : Value) (g6v9 : Value) (g6v10 : Value) (g7_ : Nat) (g7v1 : Value) (g7v2 : Value) (g7v3 : Value) (g7v4 : Value) (g7v5 : Value) (g7v6 : Value) (g7v7 : Value) (g7v8 : Value) (g7v9 : Value) (g7v10 : Value) (wh : Int32) (hwe0 : we0 = 1) (hwe1 : we1 = 1) (hwe2 : we2 = 1) (hwe3 : we3 = 1) : Met l yX8_count (zW yX8_count cX8_count 2 (some .int)) ({ frames := 1, cells := 0, slots := 0, locals := 22 }) (va_Pc [.ref h0, .int wh] (zR g [(h0, .inr (8, [.ref aC, aW, .ref aT, aB, .ref aL, .ref aG, aM, aA, aU, aE, aD, .int 0, .int 0])), (aC, .inl (g.2 4, 4, .inr (.inr (.inr (.inr (zS [some c0_, some c1_, some c2_, some c3_])))))), (c0_, .inr (3, [.int we0, .ref c0_1, .ref c0_2, .ref c0_3, .ref c0_4, .int se0])), (c0_1, .inl (g.2 0, 32, .inl f0_1)), (c0_2, .inl (g.2 0, 33, .inl f0_2)), (c0_3, .inl (g.2 0, 33, .inl f0_3)), (c0_4, .inl (g.2 0, 16, .inl f0_4)), (c1_, .inr (3, [.int we1, .ref c1_1, .ref c1_2, .ref c1_3, .ref c1_4, .int se1])), (c1_1, .inl (g.2 0, 32, .inl f1_1)), (c1_2, .inl (g.2 0, 33, .inl f1_2)), (c1_3, .inl (g.2 0, 33, .inl f1_3)), (c1_4, .inl (g.2 0, 16, .inl f1_4)), (c2_, .inr (3, [.int we2, .ref c2_1, .ref c2_2, .ref c2_3, .ref c2_4, .int se2])), (c2_1, .inl (g.2 0, 32, .inl f2_1)), (c2_2, .inl (g.2 0, 33, .inl f2_2)), (c2_3, .inl (g.2 0, 33, .inl f2_3)), (c2_4, .inl (g.2 0, 16, .inl f2_4)), (c3_, .inr (3, [.int we3, .ref c3_1, .ref c3_2, .ref c3_3, .ref c3_4, .int se3])), (c3_1, .inl (g.2 0, 32, .inl f3_1)), (c3_2, .inl (g.2 0, 33, .inl f3_2)), (c3_3, .inl (g.2 0, 33, .inl f3_3)), (c3_4, .inl (g.2 0, 16, .inl f3_4)), (aT, .inr (7, [.int 0, .ref aTb])), (aTb, .inl (g.2 0, 200, .inl ft)), (aL, .inr (5, [.int 0, l1, l2])), (aG, .inl (g.2 6, 8, .inr (.inr (.inr (.inr (zS [some g0_, some g1_, some g2_, some g3_, some g4_, some g5_, some g6_, some g7_])))))), (g0_, .inr (4, [.int 0, g0v1, g0v2, g0v3, g0v4, g0v5, g0v6, g0v7, g0v8, g0v9, g0v10])), (g1_, .inr (4, [.int 0, g1v1, g1v2, g1v3, g1v4, g1v5, g1v6, g1v7, g1v8, g1v9, g1v10])), (g2_, .inr (4, [.int 0, g2v1, g2v2, g2v3, g2v4, g2v5, g2v6, g2v7, g2v8, g2v9, g2v10])), (g3_, .inr (4, [.int 0, g3v1, g3v2, g3v3, g3v4, g3v5, g3v6, g3v7, g3v8, g3v9, g3v10])), (g4_, .inr (4, [.int 0, g4v1, g4v2, g4v3, g4v4, g4v5, g4v6, g4v7, g4v8, g4v9, g4v10])), (g5_, .inr (4, [.int 0, g5v1, g5v2, g5v3, g5v4, g5v5, g5v6, g5v7, g5v8, g5v9, g5v10])), (g6_, .inr (4, [.int 0, g6v1, g6v2, g6v3, g6v4, g6v5, g6v6, g6v7, g6v8, g6v9, g6v10])), (g7_, .inr (4, [.int 0, g7v1, g7v2, g7v3, g7v4, g7v5, g7v6, g7v7, g7v8, g7v9, g7v10]))])) (vp_Si (fun r : Int32 => (r = 0 ∧ ((0 ≤ wh.toInt ∧ wh.toInt ≤ 5))) ∨ (r = 1 ∧ ((20 ≤ wh.toInt ∧ wh.toInt ≤ 23))) ∨ (r = (-1) ∧ (¬ (0 ≤ wh.toInt ∧ wh.toInt ≤ 5)) ∧ (¬ (20 ≤ wh.toInt ∧ wh.toInt ≤ 23))))) 0 0 (fun _ => False) := by
  refine Met.ofW (cc := cX8_count) (maxL := 2) (ret := (some .int)) (by decide) rfl ?_
  intro p e s m args below meth c s₁ B hml hv
  obtain ⟨rfl, hP, hK, hN⟩ := hv
  have hx := B.exec
  have hb := B.bytes
  have hr := B.returns
  have hg := zW.law (atoms_spec (ws := (zW yX8_count cX8_count 2 (some .int))) B.pre)
  have hown : s.vm.findClass RX8 = some m.cls := findClass_of_methodNamed B.named
  have hlocks := B.notSynchronized
  have hl := lv_entry ([.ref h0, .int wh]) (n := 2) (Nat.le_of_ble_eq_true rfl)
  rw [lg_entry_eq]
  generalize (lg_sl ([.ref h0, .int wh]) ++ List.replicate (2 - (lg_sl ([.ref h0, .int wh])).length) Slot.unset).toArray = ls at hl ⊢
  have hl : lv_has ls 2 [(0, .ref h0), (1, .int wh)] := hl
  refine lv_iload_n hx hb dX8_count_0 rfl (lv_at hl 1 rfl) ?_
  rcases z_w6 wh with hw | hw | hw | hw | hw | hw | hw
  · skip
    have qw : wh.toInt = 0 := by rw [hw]; rfl
    refine lv_tableIn (tgt := 40) (off := 39) hx hb dX8_count_1 (by omega) (by omega) (by rw [qw]; rfl) (by decide) ?_
    refine lv_aload_n hx hb dX8_count_40 rfl (lv_at hl 0 rfl) ?_
    refine va_get (D := g.1) (ci := 8) (v := .int 0) (C := RX8) (T := TX8) (N := 13) hx hb hg inG8 hown hK hP 0 rfl rfl 11 (by decide) (hg _ mm_371) (fun _ h9 => h9) rfl dX8_count_41 ?_
    exact W.iret (v := 0) hx hb hr (fun t ht hW => ⟨0, rfl, by first | exact Or.inl ⟨rfl, by omega⟩ | exact Or.inr (Or.inl ⟨rfl, by omega⟩) | exact Or.inr (Or.inl ⟨by assumption, by omega⟩) | exact Or.inr (Or.inr ⟨rfl, by omega, by omega⟩), ht⟩) (fun q hq => by cases hq) dX8_count_44
  · skip
    have qw : wh.toInt = 1 := by rw [hw]; rfl
    refine lv_tableIn (tgt := 45) (off := 44) hx hb dX8_count_1 (by omega) (by omega) (by rw [qw]; rfl) (by decide) ?_
    refine lv_aload_n hx hb dX8_count_45 rfl (lv_at hl 0 rfl) ?_
    refine va_get (D := g.1) (ci := 8) (v := .int 0) (C := RX8) (T := TX8) (N := 13) hx hb hg inG8 hown hK hP 0 rfl rfl 12 (by decide) (hg _ mm_372) (fun _ h9 => h9) rfl dX8_count_46 ?_
    exact W.iret (v := 0) hx hb hr (fun t ht hW => ⟨0, rfl, by first | exact Or.inl ⟨rfl, by omega⟩ | exact Or.inr (Or.inl ⟨rfl, by omega⟩) | exact Or.inr (Or.inl ⟨by assumption, by omega⟩) | exact Or.inr (Or.inr ⟨rfl, by omega, by omega⟩), ht⟩) (fun q hq => by cases hq) dX8_count_49
  · skip
    have qw : wh.toInt = 2 := by rw [hw]; rfl
    refine lv_tableIn (tgt := 50) (off := 49) hx hb dX8_count_1 (by omega) (by omega) (by rw [qw]; rfl) (by decide) ?_
    refine lv_aload_n hx hb dX8_count_50 rfl (lv_at hl 0 rfl) ?_
    refine va_get (D := g.1) (ci := 8) (v := .ref aL) (C := RX8) (T := TX8) (N := 13) hx hb hg inG8 hown hK hP 0 rfl rfl 4 (by decide) (hg _ mm_364) (fun _ h9 => h9) rfl dX8_count_51 ?_
    refine va_get (D := g.1) (ci := 5) (v := .int 0) (C := RX5) (T := TX5) (N := 3) hx hb hg inG5 hown hK hP 24 rfl rfl 0 (by decide) (hg _ mm_154) (fun _ h9 => h9) rfl dX8_count_54 ?_
    exact W.iret (v := 0) hx hb hr (fun t ht hW => ⟨0, rfl, by first | exact Or.inl ⟨rfl, by omega⟩ | exact Or.inr (Or.inl ⟨rfl, by omega⟩) | exact Or.inr (Or.inl ⟨by assumption, by omega⟩) | exact Or.inr (Or.inr ⟨rfl, by omega, by omega⟩), ht⟩) (fun q hq => by cases hq) dX8_count_57
  · skip
    have qw : wh.toInt = 3 := by rw [hw]; rfl
    refine lv_tableIn (tgt := 58) (off := 57) hx hb dX8_count_1 (by omega) (by omega) (by rw [qw]; rfl) (by decide) ?_
    refine lv_aload_n hx hb dX8_count_58 rfl (lv_at hl 0 rfl) ?_
    have hPc := hP.sub (ws' := [(h0, .inr (8, [.ref aC, aW, .ref aT, aB, .ref aL, .ref aG, aM, aA, aU, aE, aD, .int 0, .int 0])), (aG, .inl (g.2 6, 8, .inr (.inr (.inr (.inr (zS [some g0_, some g1_, some g2_, some g3_, some g4_, some g5_, some g6_, some g7_])))))), (g0_, .inr (4, [.int 0, g0v1, g0v2, g0v3, g0v4, g0v5, g0v6, g0v7, g0v8, g0v9, g0v10])), (g1_, .inr (4, [.int 0, g1v1, g1v2, g1v3, g1v4, g1v5, g1v6, g1v7, g1v8, g1v9, g1v10])), (g2_, .inr (4, [.int 0, g2v1, g2v2, g2v3, g2v4, g2v5, g2v6, g2v7, g2v8, g2v9, g2v10])), (g3_, .inr (4, [.int 0, g3v1, g3v2, g3v3, g3v4, g3v5, g3v6, g3v7, g3v8, g3v9, g3v10])), (g4_, .inr (4, [.int 0, g4v1, g4v2, g4v3, g4v4, g4v5, g4v6, g4v7, g4v8, g4v9, g4v10])), (g5_, .inr (4, [.int 0, g5v1, g5v2, g5v3, g5v4, g5v5, g5v6, g5v7, g5v8, g5v9, g5v10])), (g6_, .inr (4, [.int 0, g6v1, g6v2, g6v3, g6v4, g6v5, g6v6, g6v7, g6v8, g6v9, g6v10])), (g7_, .inr (4, [.int 0, g7v1, g7v2, g7v3, g7v4, g7v5, g7v6, g7v7, g7v8, g7v9, g7v10]))]) [0, 25, 26, 27, 28, 29, 30, 31, 32, 33] rfl
    refine zc_i (va_runV (As := []) (rest := []) ⟨hx, hb, hml, hown, hg⟩ (c_X8_toldGossips l g h0 (.ref aC : Value) (aW : Value) (.ref aT : Value) (aB : Value) (.ref aL : Value) aG (aM : Value) (aA : Value) (aU : Value) (aE : Value) (aD : Value) g0_ (g0v1 : Value) (g0v2 : Value) (g0v3 : Value) (g0v4 : Value) (g0v5 : Value) (g0v6 : Value) (g0v7 : Value) (g0v8 : Value) (g0v9 : Value) (g0v10 : Value) g1_ (g1v1 : Value) (g1v2 : Value) (g1v3 : Value) (g1v4 : Value) (g1v5 : Value) (g1v6 : Value) (g1v7 : Value) (g1v8 : Value) (g1v9 : Value) (g1v10 : Value) g2_ (g2v1 : Value) (g2v2 : Value) (g2v3 : Value) (g2v4 : Value) (g2v5 : Value) (g2v6 : Value) (g2v7 : Value) (g2v8 : Value) (g2v9 : Value) (g2v10 : Value) g3_ (g3v1 : Value) (g3v2 : Value) (g3v3 : Value) (g3v4 : Value) (g3v5 : Value) (g3v6 : Value) (g3v7 : Value) (g3v8 : Value) (g3v9 : Value) (g3v10 : Value) g4_ (g4v1 : Value) (g4v2 : Value) (g4v3 : Value) (g4v4 : Value) (g4v5 : Value) (g4v6 : Value) (g4v7 : Value) (g4v8 : Value) (g4v9 : Value) (g4v10 : Value) g5_ (g5v1 : Value) (g5v2 : Value) (g5v3 : Value) (g5v4 : Value) (g5v5 : Value) (g5v6 : Value) (g5v7 : Value) (g5v8 : Value) (g5v9 : Value) (g5v10 : Value) g6_ (g6v1 : Value) (g6v2 : Value) (g6v3 : Value) (g6v4 : Value) (g6v5 : Value) (g6v6 : Value) (g6v7 : Value) (g6v8 : Value) (g6v9 : Value) (g6v10 : Value) g7_ (g7v1 : Value) (g7v2 : Value) (g7v3 : Value) (g7v4 : Value) (g7v5 : Value) (g7v6 : Value) (g7v7 : Value) (g7v8 : Value) (g7v9 : Value) (g7v10 : Value) ) (cwV 0 hg (z_gV mm_947 mm_949 mm_50 mm_108 mm_950) rfl rfl rfl (by decide +kernel) ⟨Nat.le_of_ble_eq_true rfl, Nat.le_of_ble_eq_true rfl⟩) ⟨(zR.pre [.ref h0] hPc hK hN).1, va_recv hK hPc (ci := 8) (q0 := 0) rfl rfl, (zR.pre [.ref h0] hPc hK hN).2⟩ rfl rfl hl.1 rfl (lv_room (Nat.le_of_ble_eq_true rfl)) dX8_count_59 ⟨Nat.le_of_ble_eq_true rfl, Nat.le_of_ble_eq_true rfl⟩) (fun r1 hr1 => ?_)
    obtain rfl := hr1
    exact W.iret (v := 0) hx hb hr (fun t ht hW => ⟨0, rfl, by first | exact Or.inl ⟨rfl, by omega⟩ | exact Or.inr (Or.inl ⟨rfl, by omega⟩) | exact Or.inr (Or.inl ⟨by assumption, by omega⟩) | exact Or.inr (Or.inr ⟨rfl, by omega, by omega⟩), ht⟩) (fun q hq => by cases hq) dX8_count_62
  · skip
    have qw : wh.toInt = 4 := by rw [hw]; rfl
    refine lv_tableIn (tgt := 63) (off := 62) hx hb dX8_count_1 (by omega) (by omega) (by rw [qw]; rfl) (by decide) ?_
    refine lv_aload_n hx hb dX8_count_63 rfl (lv_at hl 0 rfl) ?_
    refine va_get (D := g.1) (ci := 8) (v := .ref aT) (C := RX8) (T := TX8) (N := 13) hx hb hg inG8 hown hK hP 0 rfl rfl 2 (by decide) (hg _ mm_362) (fun _ h9 => h9) rfl dX8_count_64 ?_
    refine va_get (D := g.1) (ci := 7) (v := .int 0) (C := RX7) (T := TX7) (N := 2) hx hb hg inG7 hown hK hP 22 rfl rfl 0 (by decide) (hg _ mm_137) (fun _ h9 => h9) rfl dX8_count_67 ?_
    exact W.iret (v := 0) hx hb hr (fun t ht hW => ⟨0, rfl, by first | exact Or.inl ⟨rfl, by omega⟩ | exact Or.inr (Or.inl ⟨rfl, by omega⟩) | exact Or.inr (Or.inl ⟨by assumption, by omega⟩) | exact Or.inr (Or.inr ⟨rfl, by omega, by omega⟩), ht⟩) (fun q hq => by cases hq) dX8_count_70
  · skip
    have qw : wh.toInt = 5 := by rw [hw]; rfl
    refine lv_tableIn (tgt := 71) (off := 70) hx hb dX8_count_1 (by omega) (by omega) (by rw [qw]; rfl) (by decide) ?_
    refine lv_aload_n hx hb dX8_count_71 rfl (lv_at hl 0 rfl) ?_
    have hPc := hP.sub (ws' := [(h0, .inr (8, [.ref aC, aW, .ref aT, aB, .ref aL, .ref aG, aM, aA, aU, aE, aD, .int 0, .int 0]))]) [0] rfl
    refine zc_i (va_runV (As := []) (rest := []) ⟨hx, hb, hml, hown, hg⟩ (c_X8_shownBooks l g h0 (.ref aC : Value) (aW : Value) (.ref aT : Value) (aB : Value) (.ref aL : Value) (.ref aG : Value) (aM : Value) (aA : Value) (aU : Value) (aE : Value) (aD : Value) ) (cwV 0 hg (z_gV mm_663 mm_665 mm_23 mm_108 mm_666) rfl rfl rfl (by decide +kernel) ⟨Nat.le_of_ble_eq_true rfl, Nat.le_of_ble_eq_true rfl⟩) ⟨(zR.pre [.ref h0] hPc hK hN).1, va_recv hK hPc (ci := 8) (q0 := 0) rfl rfl, (zR.pre [.ref h0] hPc hK hN).2⟩ rfl rfl hl.1 rfl (lv_room (Nat.le_of_ble_eq_true rfl)) dX8_count_72 ⟨Nat.le_of_ble_eq_true rfl, Nat.le_of_ble_eq_true rfl⟩) (fun r2 hr2 => ?_)
    obtain rfl := hr2
    exact W.iret (v := 0) hx hb hr (fun t ht hW => ⟨0, rfl, by first | exact Or.inl ⟨rfl, by omega⟩ | exact Or.inr (Or.inl ⟨rfl, by omega⟩) | exact Or.inr (Or.inl ⟨by assumption, by omega⟩) | exact Or.inr (Or.inr ⟨rfl, by omega, by omega⟩), ht⟩) (fun q hq => by cases hq) dX8_count_75
  · skip
    refine lv_tableOut (tgt := 76) hx hb dX8_count_1 hw (by decide) ?_
    refine lv_aload_n hx hb dX8_count_76 rfl (lv_at hl 0 rfl) ?_
    refine lv_iload_n hx hb dX8_count_77 rfl (lv_at hl 1 rfl) ?_
    refine lv_bipush (v := 10) hx hb dX8_count_78 (by decide) ?_
    refine lv_isub hx hb dX8_count_80 ?_
    refine lv_topi (fun x3 ex3 => ?_)
    have wx3 := z_subw wh 10
    rw [← ex3] at wx3
    have kx3 : (10 : Int32).toInt = 10 := rfl
    have rx3 := z_rng x3
    have rx3b := z_rng wh
    have hPc := hP.sub (ws' := [(h0, .inr (8, [.ref aC, aW, .ref aT, aB, .ref aL, .ref aG, aM, aA, aU, aE, aD, .int 0, .int 0]))]) [0] rfl
    refine zc_i (va_runV (As := [.int x3]) (rest := []) ⟨hx, hb, hml, hown, hg⟩ (c_X8_isBook l g h0 (.ref aC : Value) (aW : Value) (.ref aT : Value) (aB : Value) (.ref aL : Value) (.ref aG : Value) (aM : Value) (aA : Value) (aU : Value) (aE : Value) (aD : Value) x3 ) (cwV 1 hg (z_gV mm_591 mm_593 mm_20 mm_108 mm_594) rfl rfl rfl (by decide +kernel) ⟨Nat.le_of_ble_eq_true rfl, Nat.le_of_ble_eq_true rfl⟩) ⟨(zR.pre [.ref h0, .int x3] hPc hK hN).1, va_recv hK hPc (ci := 8) (q0 := 0) rfl rfl, (zR.pre [.ref h0, .int x3] hPc hK hN).2⟩ rfl rfl hl.1 rfl (lv_room (Nat.le_of_ble_eq_true rfl)) dX8_count_81 ⟨Nat.le_of_ble_eq_true rfl, Nat.le_of_ble_eq_true rfl⟩) (fun r4 hr4 => ?_)
    obtain rfl := hr4
    refine lv_if_eq (tgt := 100) hx hb dX8_count_84 (by decide) (fun c5 => ?_) (fun c5 => ?_)
    · skip
      refine lv_iload_n hx hb dX8_count_100 rfl (lv_at hl 1 rfl) ?_
      refine lv_bipush (v := 20) hx hb dX8_count_101 (by decide) ?_
      refine lv_isub hx hb dX8_count_103 ?_
      refine lv_topi (fun x6 ex6 => ?_)
      have wx6 := z_subw wh 20
      rw [← ex6] at wx6
      have kx6 : (20 : Int32).toInt = 20 := rfl
      have rx6 := z_rng x6
      have rx6b := z_rng wh
      have hPc := hP.sub (ws' := []) [] rfl
      refine zc_i (va_runS (As := [.int x6]) (rest := []) ⟨hx, hb, hml, hown, hg⟩ (c_X8_isColumn l g x6 ) (va_cwS 1 hg (z_gS mm_404 mm_405 mm_108 mm_406) rfl rfl rfl (by decide +kernel) ⟨Nat.le_of_ble_eq_true rfl, Nat.le_of_ble_eq_true rfl⟩) (zR.pre [.int x6] hPc hK hN) rfl rfl hl.1 rfl (lv_room (Nat.le_of_ble_eq_true rfl)) dX8_count_104 ⟨Nat.le_of_ble_eq_true rfl, Nat.le_of_ble_eq_true rfl⟩) (fun r7 hr7 => ?_)
      rcases hr7 with hr7 | hr7
      · skip
        obtain ⟨rfl, h8, h9⟩ := hr7
        have h8 : 0 ≤ x6.toInt := h8
        have h9 : x6.toInt ≤ 3 := h9
        refine lv_if_eq (tgt := 123) hx hb dX8_count_107 (by decide) (fun c10 => ?_) (fun c10 => ?_)
        · skip
          exact absurd c10 (by decide)
        · skip
          refine lv_aload_n hx hb dX8_count_110 rfl (lv_at hl 0 rfl) ?_
          refine va_get (D := g.1) (ci := 8) (v := .ref aC) (C := RX8) (T := TX8) (N := 13) hx hb hg inG8 hown hK hP 0 rfl rfl 0 (by decide) (hg _ mm_360) (fun _ h9 => h9) rfl dX8_count_111 ?_
          refine lv_iload_n hx hb dX8_count_114 rfl (lv_at hl 1 rfl) ?_
          refine lv_bipush (v := 20) hx hb dX8_count_115 (by decide) ?_
          refine lv_isub hx hb dX8_count_117 ?_
          refine lv_topi (fun x11 ex11 => ?_)
          have wx11 := z_subw wh 20
          rw [← ex11] at wx11
          have kx11 : (20 : Int32).toInt = 20 := rfl
          have rx11 := z_rng x11
          have rx11b := z_rng wh
          rcases z_c4 x11 (by omega) (by omega) with hs12 | hs12 | hs12 | hs12
          · skip
            have ehs12 : x11.toInt = 0 := by rw [hs12]; rfl
            have qhs12 : (0 : Int32).toInt = 0 := rfl
            subst hs12
            refine va_aldq hx hb hK hP 1 4 rfl rfl (z_in (by decide : (0 : Int32).toInt = 0) (by omega) (by omega)) dX8_count_118 ?_
            refine W.eq (g2 := F0 m 119 ls [.ref c0_]) rfl ?_
            refine va_get (D := g.1) (ci := 3) (v := .int we0) (C := RX3) (T := TX3) (N := 6) hx hb hg inG3 hown hK hP 2 rfl rfl 0 (by decide) (hg _ mm_316) (fun _ h9 => h9) rfl dX8_count_119 ?_
            exact W.iret (v := we0) hx hb hr (fun t ht hW => ⟨we0, rfl, by first | exact Or.inl ⟨rfl, by omega⟩ | exact Or.inr (Or.inl ⟨rfl, by omega⟩) | exact Or.inr (Or.inl ⟨by assumption, by omega⟩) | exact Or.inr (Or.inr ⟨rfl, by omega, by omega⟩), ht⟩) (fun q hq => by cases hq) dX8_count_122
          · skip
            have ehs12 : x11.toInt = 1 := by rw [hs12]; rfl
            have qhs12 : (1 : Int32).toInt = 1 := rfl
            subst hs12
            refine va_aldq hx hb hK hP 1 4 rfl rfl (z_in (by decide : (1 : Int32).toInt = 1) (by omega) (by omega)) dX8_count_118 ?_
            refine W.eq (g2 := F0 m 119 ls [.ref c1_]) rfl ?_
            refine va_get (D := g.1) (ci := 3) (v := .int we1) (C := RX3) (T := TX3) (N := 6) hx hb hg inG3 hown hK hP 7 rfl rfl 0 (by decide) (hg _ mm_316) (fun _ h9 => h9) rfl dX8_count_119 ?_
            exact W.iret (v := we1) hx hb hr (fun t ht hW => ⟨we1, rfl, by first | exact Or.inl ⟨rfl, by omega⟩ | exact Or.inr (Or.inl ⟨rfl, by omega⟩) | exact Or.inr (Or.inl ⟨by assumption, by omega⟩) | exact Or.inr (Or.inr ⟨rfl, by omega, by omega⟩), ht⟩) (fun q hq => by cases hq) dX8_count_122
          · skip
            have ehs12 : x11.toInt = 2 := by rw [hs12]; rfl
            have qhs12 : (2 : Int32).toInt = 2 := rfl
            subst hs12
            refine va_aldq hx hb hK hP 1 4 rfl rfl (z_in (by decide : (2 : Int32).toInt = 2) (by omega) (by omega)) dX8_count_118 ?_
            refine W.eq (g2 := F0 m 119 ls [.ref c2_]) rfl ?_
            refine va_get (D := g.1) (ci := 3) (v := .int we2) (C := RX3) (T := TX3) (N := 6) hx hb hg inG3 hown hK hP 12 rfl rfl 0 (by decide) (hg _ mm_316) (fun _ h9 => h9) rfl dX8_count_119 ?_
            exact W.iret (v := we2) hx hb hr (fun t ht hW => ⟨we2, rfl, by first | exact Or.inl ⟨rfl, by omega⟩ | exact Or.inr (Or.inl ⟨rfl, by omega⟩) | exact Or.inr (Or.inl ⟨by assumption, by omega⟩) | exact Or.inr (Or.inr ⟨rfl, by omega, by omega⟩), ht⟩) (fun q hq => by cases hq) dX8_count_122
          · skip
            have ehs12 : x11.toInt = 3 := by rw [hs12]; rfl
            have qhs12 : (3 : Int32).toInt = 3 := rfl
            subst hs12
            refine va_aldq hx hb hK hP 1 4 rfl rfl (z_in (by decide : (3 : Int32).toInt = 3) (by omega) (by omega)) dX8_count_118 ?_
            refine W.eq (g2 := F0 m 119 ls [.ref c3_]) rfl ?_
            refine va_get (D := g.1) (ci := 3) (v := .int we3) (C := RX3) (T := TX3) (N := 6) hx hb hg inG3 hown hK hP 17 rfl rfl 0 (by decide) (hg _ mm_316) (fun _ h9 => h9) rfl dX8_count_119 ?_
            exact W.iret (v := we3) hx hb hr (fun t ht hW => ⟨we3, rfl, by first | exact Or.inl ⟨rfl, by omega⟩ | exact Or.inr (Or.inl ⟨rfl, by omega⟩) | exact Or.inr (Or.inl ⟨by assumption, by omega⟩) | exact Or.inr (Or.inr ⟨rfl, by omega, by omega⟩), ht⟩) (fun q hq => by cases hq) dX8_count_122
      · skip
        obtain ⟨rfl, h13⟩ := hr7
        have h13 : ¬ (0 ≤ x6.toInt ∧ x6.toInt ≤ 3) := h13
        refine lv_if_eq (tgt := 123) hx hb dX8_count_107 (by decide) (fun c14 => ?_) (fun c14 => ?_)
        · skip
          refine lv_aload_n hx hb dX8_count_123 rfl (lv_at hl 0 rfl) ?_
          refine lv_iload_n hx hb dX8_count_124 rfl (lv_at hl 1 rfl) ?_
          refine lv_bipush (v := 30) hx hb dX8_count_125 (by decide) ?_
          refine lv_isub hx hb dX8_count_127 ?_
          refine lv_topi (fun x15 ex15 => ?_)
          have wx15 := z_subw wh 30
          rw [← ex15] at wx15
          have kx15 : (30 : Int32).toInt = 30 := rfl
          have rx15 := z_rng x15
          have rx15b := z_rng wh
          have hPc := hP.sub (ws' := [(h0, .inr (8, [.ref aC, aW, .ref aT, aB, .ref aL, .ref aG, aM, aA, aU, aE, aD, .int 0, .int 0]))]) [0] rfl
          refine zc_i (va_runV (As := [.int x15]) (rest := []) ⟨hx, hb, hml, hown, hg⟩ (c_X8_isPerson l g h0 (.ref aC : Value) (aW : Value) (.ref aT : Value) (aB : Value) (.ref aL : Value) (.ref aG : Value) (aM : Value) (aA : Value) (aU : Value) (aE : Value) (aD : Value) x15 ) (cwV 1 hg (z_gV mm_451 mm_453 mm_3 mm_108 mm_454) rfl rfl rfl (by decide +kernel) ⟨Nat.le_of_ble_eq_true rfl, Nat.le_of_ble_eq_true rfl⟩) ⟨(zR.pre [.ref h0, .int x15] hPc hK hN).1, va_recv hK hPc (ci := 8) (q0 := 0) rfl rfl, (zR.pre [.ref h0, .int x15] hPc hK hN).2⟩ rfl rfl hl.1 rfl (lv_room (Nat.le_of_ble_eq_true rfl)) dX8_count_128 ⟨Nat.le_of_ble_eq_true rfl, Nat.le_of_ble_eq_true rfl⟩) (fun r16 hr16 => ?_)
          obtain rfl := hr16
          refine lv_if_eq (tgt := 146) hx hb dX8_count_131 (by decide) (fun c17 => ?_) (fun c17 => ?_)
          · skip
            refine lv_iconst (v := (-1)) hx hb dX8_count_146 (by decide) ?_
            exact W.iret (v := (-1)) hx hb hr (fun t ht hW => ⟨(-1), rfl, by first | exact Or.inl ⟨rfl, by omega⟩ | exact Or.inr (Or.inl ⟨rfl, by omega⟩) | exact Or.inr (Or.inl ⟨by assumption, by omega⟩) | exact Or.inr (Or.inr ⟨rfl, by omega, by omega⟩), ht⟩) (fun q hq => by cases hq) dX8_count_147
          · skip
            exact absurd c17 (by decide)
        · skip
          exact absurd c14 (by decide)
    · skip
      exact absurd c5 (by decide)
