set_option maxHeartbeats 4000000 in
set_option maxRecDepth 100000 in
theorem c_X8_within (l : Launch) (g : zG) (n : Int32) (lo : Int32) (hi : Int32) : Met l yX8_within (zW yX8_within cX8_within 3 (some .boolean)) ({ frames := 0, cells := 0, slots := 0, locals := 0 }) (va_Pc [.int n, .int lo, .int hi] (zR g [])) (vp_Si (fun r : Int32 => (r = 1 ∧ (lo.toInt ≤ n.toInt) ∧ (n.toInt ≤ hi.toInt)) ∨ (r = 0 ∧ (¬ (lo.toInt ≤ n.toInt ∧ n.toInt ≤ hi.toInt))))) 0 0 (fun _ => False) := by
  refine Met.ofW (cc := cX8_within) (maxL := 3) (ret := (some .boolean)) (by decide) rfl ?_
  intro p e s m args below meth c s₁ B hml hv
  obtain ⟨rfl, hP, hK, hN⟩ := hv
  have hx := B.exec
  have hb := B.bytes
  have hr := B.returns
  have hg := zW.law (atoms_spec (ws := (zW yX8_within cX8_within 3 (some .boolean))) B.pre)
  have hown : s.vm.findClass RX8 = some m.cls := findClass_of_methodNamed B.named
  have hlocks := B.notSynchronized
  have hl := lv_entry ([.int n, .int lo, .int hi]) (n := 3) (Nat.le_of_ble_eq_true rfl)
  rw [lg_entry_eq]
  generalize (lg_sl ([.int n, .int lo, .int hi]) ++ List.replicate (3 - (lg_sl ([.int n, .int lo, .int hi])).length) Slot.unset).toArray = ls at hl ⊢
  have hl : lv_has ls 3 [(0, .int n), (1, .int lo), (2, .int hi)] := hl
  refine lv_iload_n hx hb dX8_within_0 rfl (lv_at hl 0 rfl) ?_
  refine lv_iload_n hx hb dX8_within_1 rfl (lv_at hl 1 rfl) ?_
  refine lv_icmp_lt (tgt := 14) hx hb dX8_within_2 (by decide) (fun c1 => ?_) (fun c1 => ?_)
  · skip
    have c1 : n.toInt < lo.toInt := (z_lt rfl rfl).mp c1
    refine lv_iconst (v := 0) hx hb dX8_within_14 (by decide) ?_
    exact W.zret (v := 0) hx hb hr rfl (fun t ht hW => ⟨0, rfl, by first | exact Or.inl ⟨rfl, by omega⟩ | exact Or.inr ⟨rfl, by omega⟩, ht⟩) (fun q hq => by cases hq) dX8_within_15
  · skip
    have c1 : ¬ (n.toInt < lo.toInt) := fun q => c1 ((z_lt rfl rfl).mpr q)
    refine lv_iload_n hx hb dX8_within_5 rfl (lv_at hl 0 rfl) ?_
    refine lv_iload_n hx hb dX8_within_6 rfl (lv_at hl 2 rfl) ?_
    refine lv_icmp_gt (tgt := 14) hx hb dX8_within_7 (by decide) (fun c2 => ?_) (fun c2 => ?_)
    · skip
      have c2 : hi.toInt < n.toInt := (z_lt rfl rfl).mp c2
      refine lv_iconst (v := 0) hx hb dX8_within_14 (by decide) ?_
      exact W.zret (v := 0) hx hb hr rfl (fun t ht hW => ⟨0, rfl, by first | exact Or.inl ⟨rfl, by omega⟩ | exact Or.inr ⟨rfl, by omega⟩, ht⟩) (fun q hq => by cases hq) dX8_within_15
    · skip
      have c2 : ¬ (hi.toInt < n.toInt) := fun q => c2 ((z_lt rfl rfl).mpr q)
      refine lv_iconst (v := 1) hx hb dX8_within_10 (by decide) ?_
      refine lv_goto (tgt := 15) hx hb dX8_within_11 (by decide) ?_
      exact W.zret (v := 1) hx hb hr rfl (fun t ht hW => ⟨1, rfl, by first | exact Or.inl ⟨rfl, by omega⟩ | exact Or.inr ⟨rfl, by omega⟩, ht⟩) (fun q hq => by cases hq) dX8_within_15

set_option maxHeartbeats 4000000 in
set_option maxRecDepth 100000 in
theorem c_X3_climb1 (l : Launch) (g : zG) (sz : Nat) (h0 : Nat) (a1 : Nat) (a2 : Nat) (a3 : Nat) (a4 : Nat) (f1 : Nat → Int32) (f2 : Nat → Int32) (f3 : Nat → Int32) (f4 : Nat → Int32) (we : Int32) (se : Int32) (v : Int32) (bi : Int32) (hb2 : ∀ j, j < 32 → 0 ≤ (f2 j).toInt ∧ (f2 j).toInt ≤ 1000) : Met l yX3_climb (zW yX3_climb cX3_climb 6 none) ({ frames := 1, cells := 0, slots := 0, locals := 22 }) (va_Pc [.ref h0, .int v, .int 1, .int bi] (zA g [(h0, .inr (3, [.int we, .ref a1, .ref a2, .ref a3, .ref a4, .int se])), (a1, .inl (g.2 0, 32, .inl f1)), (a2, .inl (g.2 0, 33, .inl f2)), (a3, .inl (g.2 0, 33, .inl f3)), (a4, .inl (g.2 0, 16, .inl f4))] sz)) (va_Qv (fun (_ : Unit) => True) (fun _ t => ∃ (z2 : Nat → Int32), ∃ (z3 : Nat → Int32), zP g [(h0, .inr (3, [.int we, .ref a1, .ref a2, .ref a3, .ref a4, .int se])), (a1, .inl (g.2 0, 32, .inl f1)), (a2, .inl (g.2 0, 33, .inl z2)), (a3, .inl (g.2 0, 33, .inl z3)), (a4, .inl (g.2 0, 16, .inl f4))] t.heap ∧ va_D (va_A [(h0, .inr (3, [.int we, .ref a1, .ref a2, .ref a3, .ref a4, .int se])), (a1, .inl (g.2 0, 32, .inl f1)), (a2, .inl (g.2 0, 33, .inl f2)), (a3, .inl (g.2 0, 33, .inl f3)), (a4, .inl (g.2 0, 16, .inl f4))] sz) [(h0, .inr (3, [.int we, .ref a1, .ref a2, .ref a3, .ref a4, .int se])), (a1, .inl (g.2 0, 32, .inl f1)), (a2, .inl (g.2 0, 33, .inl z2)), (a3, .inl (g.2 0, 33, .inl z3)), (a4, .inl (g.2 0, 16, .inl f4))] ∧ (∀ j, j < 32 → (z2 j).toInt = (f2 j).toInt + zvis (fT f1) j 32 v.toInt) ∧ (z2 32 = f2 32)) (va_A [(h0, .inr (3, [.int we, .ref a1, .ref a2, .ref a3, .ref a4, .int se])), (a1, .inl (g.2 0, 32, .inl f1)), (a2, .inl (g.2 0, 33, .inl f2)), (a3, .inl (g.2 0, 33, .inl f3)), (a4, .inl (g.2 0, 16, .inl f4))] sz)) 0 0 (va_A [(h0, .inr (3, [.int we, .ref a1, .ref a2, .ref a3, .ref a4, .int se])), (a1, .inl (g.2 0, 32, .inl f1)), (a2, .inl (g.2 0, 33, .inl f2)), (a3, .inl (g.2 0, 33, .inl f3)), (a4, .inl (g.2 0, 16, .inl f4))] sz) := by
  refine Met.ofW (cc := cX3_climb) (maxL := 6) (ret := none) (by decide) rfl ?_
  intro p e s m args below meth c s₁ B hml hv
  obtain ⟨rfl, hsz, hP, hK, hD0, hN⟩ := hv
  have hx := B.exec
  have hb := B.bytes
  have hr := B.returns
  have hg := zW.law (atoms_spec (ws := (zW yX3_climb cX3_climb 6 none)) B.pre)
  have hown : s.vm.findClass RX3 = some m.cls := findClass_of_methodNamed B.named
  have hlocks := B.notSynchronized
  subst hsz
  have hD := hD0.self (sz := s.heap.size)
  generalize hAe : va_A [(h0, .inr (3, [.int we, .ref a1, .ref a2, .ref a3, .ref a4, .int se])), (a1, .inl (g.2 0, 32, .inl f1)), (a2, .inl (g.2 0, 33, .inl f2)), (a3, .inl (g.2 0, 33, .inl f3)), (a4, .inl (g.2 0, 16, .inl f4))] s.heap.size = A at hD ⊢
  have hA : ∀ q : Nat, s.heap.size ≤ q → A q := fun q h => by rw [← hAe]; exact Or.inr h
  have hS : va_S A s.heap s.heap [] := va_S.rf
  have hl := lv_entry ([.ref h0, .int v, .int 1, .int bi]) (n := 6) (Nat.le_of_ble_eq_true rfl)
  rw [lg_entry_eq]
  generalize (lg_sl ([.ref h0, .int v, .int 1, .int bi]) ++ List.replicate (6 - (lg_sl ([.ref h0, .int v, .int 1, .int bi])).length) Slot.unset).toArray = ls at hl ⊢
  have hl : lv_has ls 6 [(0, .ref h0), (1, .int v), (2, .int 1), (3, .int bi)] := hl
  refine lv_iload_n hx hb dX3_climb_0 rfl (lv_at hl 1 rfl) ?_
  refine lv_istore (lv' := [(4, .int v), (0, .ref h0), (1, .int v), (2, .int 1), (3, .int bi)]) hx hb dX3_climb_1 hl (by decide) rfl (fun ls hl => ?_)
  refine lv_iconst (v := 0) hx hb dX3_climb_3 (by decide) ?_
  refine lv_istore (lv' := [(5, .int 0), (4, .int v), (0, .ref h0), (1, .int v), (2, .int 1), (3, .int bi)]) hx hb dX3_climb_4 hl (by decide) rfl (fun ls hl => ?_)
  have loop6 : ∀ (n : Nat) (i : Nat) (nd : Int32) (y2 : Nat → Int32) (y3 : Nat → Int32) (H : Heap) (locs : List Loc) (ls : Array Slot), (32 - i < n) → (i ≤ 32) → (∀ j, j < 32 → (y2 j).toInt + zvis (fT f1) j (32 - i) nd.toInt = (f2 j).toInt + zvis (fT f1) j 32 v.toInt) → (∀ j, j < 32 → 0 ≤ (y2 j).toInt ∧ (y2 j).toInt ≤ 1000 + (i : Int)) → (y2 32 = f2 32) → zP g [(h0, .inr (3, [.int we, .ref a1, .ref a2, .ref a3, .ref a4, .int se])), (a1, .inl (g.2 0, 32, .inl f1)), (a2, .inl (g.2 0, 33, .inl y2)), (a3, .inl (g.2 0, 33, .inl y3)), (a4, .inl (g.2 0, 16, .inl f4))] H → va_D A [(h0, .inr (3, [.int we, .ref a1, .ref a2, .ref a3, .ref a4, .int se])), (a1, .inl (g.2 0, 32, .inl f1)), (a2, .inl (g.2 0, 33, .inl y2)), (a3, .inl (g.2 0, 33, .inl y3)), (a4, .inl (g.2 0, 16, .inl f4))] → va_S A s.heap H locs → lv_has ls 6 [(5, .int (nI i)), (4, .int nd), (0, .ref h0), (1, .int v), (2, .int 1), (3, .int bi)] → W p l e (headSpec (zW yX3_climb cX3_climb 6 none) ({ frames := 1, cells := 0, slots := 0, locals := 22 })).room s m ([.ref h0, .int v, .int 1, .int bi] : List Value).toArray below meth c H locs 0 0 (MQ below (va_Qv (fun (_ : Unit) => True) (fun _ t => ∃ (z2 : Nat → Int32), ∃ (z3 : Nat → Int32), zP g [(h0, .inr (3, [.int we, .ref a1, .ref a2, .ref a3, .ref a4, .int se])), (a1, .inl (g.2 0, 32, .inl f1)), (a2, .inl (g.2 0, 33, .inl z2)), (a3, .inl (g.2 0, 33, .inl z3)), (a4, .inl (g.2 0, 16, .inl f4))] t.heap ∧ va_D A [(h0, .inr (3, [.int we, .ref a1, .ref a2, .ref a3, .ref a4, .int se])), (a1, .inl (g.2 0, 32, .inl f1)), (a2, .inl (g.2 0, 33, .inl z2)), (a3, .inl (g.2 0, 33, .inl z3)), (a4, .inl (g.2 0, 16, .inl f4))] ∧ (∀ j, j < 32 → (z2 j).toInt = (f2 j).toInt + zvis (fT f1) j 32 v.toInt) ∧ (z2 32 = f2 32)) A) ([.ref h0, .int v, .int 1, .int bi] : List Value).toArray s 0 0 A) (F0 m 6 ls []) := by
    intro n
    induction n with
    | zero =>
      intro i nd y2 y3 H locs ls hn hi hv1 hv2 hv3 hP hD hS hl
      exact absurd hn (Nat.not_lt_zero _)
    | succ n ih =>
      intro i nd y2 y3 H locs ls hn hi hv1 hv2 hv3 hP hD hS hl
      refine lv_iload hx hb dX3_climb_6 (lv_at hl 0 rfl) ?_
      refine lv_bipush (v := 32) hx hb dX3_climb_8 (by decide) ?_
      refine lv_icmp_ge (tgt := 61) hx hb dX3_climb_10 (by decide) (fun c1 => ?_) (fun c1 => ?_)
      · skip
        have c1 : 32 ≤ ((i : Nat) : Int) := (z_le (by decide : (32 : Int32).toInt = 32) (nI_toInt (by omega))).mp c1
        have hP9 := hP.sub (ws' := [(h0, .inr (3, [.int we, .ref a1, .ref a2, .ref a3, .ref a4, .int se])), (a1, .inl (g.2 0, 32, .inl f1)), (a2, .inl (g.2 0, 33, .inl y2)), (a3, .inl (g.2 0, 33, .inl y3)), (a4, .inl (g.2 0, 16, .inl f4))]) [0, 1, 2, 3, 4] rfl
        have hD9 := hD.sub (ws' := [(h0, .inr (3, [.int we, .ref a1, .ref a2, .ref a3, .ref a4, .int se])), (a1, .inl (g.2 0, 32, .inl f1)), (a2, .inl (g.2 0, 33, .inl y2)), (a3, .inl (g.2 0, 33, .inl y3)), (a4, .inl (g.2 0, 16, .inl f4))]) [0, 1, 2, 3, 4] (by decide) rfl
        refine W.widen (k := 0) (n := 0) (Nat.le_of_ble_eq_true rfl) (Nat.le_of_ble_eq_true rfl) ?_
        exact W.vret hx hb hr (fun t ht hW => ⟨⟨(), rfl, trivial, ⟨y2, y3, by rw [ht]; exact hP9, hD9, fun j hj => by have := hv1 j hj; first | (rw [show 32 - i = 0 by omega] at this; have q : zvis (fT f1) j 0 nd.toInt = 0 := rfl; omega) | (rw [zvis_out (by omega)] at this; omega), hv3⟩⟩, hS.F ht⟩) hS.2.2 dX3_climb_61
      · skip
        have c1 : ¬ (32 ≤ ((i : Nat) : Int)) := fun q => c1 ((z_le (by decide : (32 : Int32).toInt = 32) (nI_toInt (by omega))).mpr q)
        refine lv_iload hx hb dX3_climb_13 (lv_at hl 1 rfl) ?_
        refine lv_iconst (v := 0) hx hb dX3_climb_15 (by decide) ?_
        refine lv_bipush (v := 31) hx hb dX3_climb_16 (by decide) ?_
        have hPc := hP.sub (ws' := []) [] rfl
        refine zc_i (va_runSN (As := [.int nd, .int 0, .int 31]) (rest := []) ⟨hx, hb, hml, hown, hg⟩ (c_X8_within l g nd (0 : Int32) (31 : Int32) ) ⟨va_cnB 3 hg (z_gN mm_409) rfl rfl rfl (hN.at 7 rfl) (hg _ mm_108) (by decide +kernel) ⟨Nat.le_of_ble_eq_true rfl, Nat.le_of_ble_eq_true rfl⟩, (hg _ mm_408), trivial⟩ (zR.pre [.int nd, .int 0, .int 31] hPc hK hN) rfl rfl hl.1 rfl (lv_room (Nat.le_of_ble_eq_true rfl)) dX3_climb_18 ⟨Nat.le_of_ble_eq_true rfl, Nat.le_of_ble_eq_true rfl⟩) (fun r2 hr2 => ?_)
        rcases hr2 with hr2 | hr2
        · skip
          obtain ⟨rfl, h3, h4⟩ := hr2
          have h3 : (0 : Int) ≤ nd.toInt := h3
          have h4 : nd.toInt ≤ (31 : Int) := h4
          refine lv_if_eq (tgt := 61) hx hb dX3_climb_21 (by decide) (fun c5 => ?_) (fun c5 => ?_)
          · skip
            exact absurd c5 (by decide)
          · skip
            refine lv_aload_n hx hb dX3_climb_24 rfl (lv_at hl 2 rfl) ?_
            refine va_get (D := g.1) (ci := 3) (v := .ref a2) (C := RX3) (T := TX3) (N := 6) hx hb hg inG3 hown hK hP 0 rfl rfl 2 (by decide) (hg _ mm_318) (fun _ h9 => h9) rfl dX3_climb_25 ?_
            refine lv_iload hx hb dX3_climb_28 (lv_at hl 1 rfl) ?_
            refine lv_dup2_11 hx hb dX3_climb_30 rfl rfl ?_
            refine va_iald hx hb hK hP 2 0 rfl rfl (z_in rfl (by omega) (by omega)) dX3_climb_31 ?_
            refine lv_topi (fun x6 ex6 => ?_)
            have ex6 : x6 = y2 (Int32.toNatClampNeg nd) := ex6.trans (congrArg y2 rfl)
            have hy := hv2 nd.toNatClampNeg (z_clt (x := nd) rfl (by omega) (by omega))
            rw [← ex6] at hy
            refine lv_iload_n hx hb dX3_climb_32 rfl (lv_at hl 4 rfl) ?_
            refine lv_iadd hx hb dX3_climb_33 ?_
            refine lv_topi (fun x7 ex7 => ?_)
            have tx7 : x7.toInt = x6.toInt + 1 := by rw [ex7]; exact z_add rfl (by decide : (1 : Int32).toInt = 1) (by omega) (by omega)
            refine va_iast hx hb hK hP hD hS 2 0 rfl rfl (z_in rfl (by omega) (by omega)) dX3_climb_34 (fun H locs hP hD hS => ?_)
            have hP : zP g [(h0, .inr (3, [.int we, .ref a1, .ref a2, .ref a3, .ref a4, .int se])), (a1, .inl (g.2 0, 32, .inl f1)), (a2, .inl (g.2 0, 33, .inl (upd y2 (Int32.toNatClampNeg nd) x7))), (a3, .inl (g.2 0, 33, .inl y3)), (a4, .inl (g.2 0, 16, .inl f4))] H := hP
            have hD : va_D A [(h0, .inr (3, [.int we, .ref a1, .ref a2, .ref a3, .ref a4, .int se])), (a1, .inl (g.2 0, 32, .inl f1)), (a2, .inl (g.2 0, 33, .inl (upd y2 (Int32.toNatClampNeg nd) x7))), (a3, .inl (g.2 0, 33, .inl y3)), (a4, .inl (g.2 0, 16, .inl f4))] := hD
            refine lv_aload_n hx hb dX3_climb_35 rfl (lv_at hl 2 rfl) ?_
            refine va_get (D := g.1) (ci := 3) (v := .ref a3) (C := RX3) (T := TX3) (N := 6) hx hb hg inG3 hown hK hP 0 rfl rfl 3 (by decide) (hg _ mm_319) (fun _ h9 => h9) rfl dX3_climb_36 ?_
            refine lv_iload hx hb dX3_climb_39 (lv_at hl 1 rfl) ?_
            refine lv_dup2_11 hx hb dX3_climb_41 rfl rfl ?_
            refine va_iald hx hb hK hP 3 0 rfl rfl (z_in rfl (by omega) (by omega)) dX3_climb_42 ?_
            refine lv_topi (fun x8 ex8 => ?_)
            have ex8 : x8 = y3 (Int32.toNatClampNeg nd) := ex8.trans (congrArg y3 rfl)
            refine lv_iload_n hx hb dX3_climb_43 rfl (lv_at hl 5 rfl) ?_
            refine lv_ior hx hb dX3_climb_44 ?_
            refine lv_topi (fun x9 ex9 => ?_)
            refine va_iast hx hb hK hP hD hS 3 0 rfl rfl (z_in rfl (by omega) (by omega)) dX3_climb_45 (fun H locs hP hD hS => ?_)
            have hP : zP g [(h0, .inr (3, [.int we, .ref a1, .ref a2, .ref a3, .ref a4, .int se])), (a1, .inl (g.2 0, 32, .inl f1)), (a2, .inl (g.2 0, 33, .inl (upd y2 (Int32.toNatClampNeg nd) x7))), (a3, .inl (g.2 0, 33, .inl (upd y3 (Int32.toNatClampNeg nd) x9))), (a4, .inl (g.2 0, 16, .inl f4))] H := hP
            have hD : va_D A [(h0, .inr (3, [.int we, .ref a1, .ref a2, .ref a3, .ref a4, .int se])), (a1, .inl (g.2 0, 32, .inl f1)), (a2, .inl (g.2 0, 33, .inl (upd y2 (Int32.toNatClampNeg nd) x7))), (a3, .inl (g.2 0, 33, .inl (upd y3 (Int32.toNatClampNeg nd) x9))), (a4, .inl (g.2 0, 16, .inl f4))] := hD
            refine lv_aload_n hx hb dX3_climb_46 rfl (lv_at hl 2 rfl) ?_
            refine va_get (D := g.1) (ci := 3) (v := .ref a1) (C := RX3) (T := TX3) (N := 6) hx hb hg inG3 hown hK hP 0 rfl rfl 1 (by decide) (hg _ mm_317) (fun _ h9 => h9) rfl dX3_climb_47 ?_
            refine lv_iload hx hb dX3_climb_50 (lv_at hl 1 rfl) ?_
            refine va_iald hx hb hK hP 1 0 rfl rfl (z_in rfl (by omega) (by omega)) dX3_climb_52 ?_
            refine lv_topi (fun x10 ex10 => ?_)
            have ex10 : x10 = f1 (Int32.toNatClampNeg nd) := ex10.trans (congrArg f1 rfl)
            refine lv_istore (lv' := [(4, .int x10), (5, .int (nI i)), (0, .ref h0), (1, .int v), (2, .int 1), (3, .int bi)]) hx hb dX3_climb_53 hl (by decide) rfl (fun ls hl => ?_)
            refine lv_iinc (v := (nI (i + 1))) (lv' := [(5, .int (nI (i + 1))), (4, .int x10), (0, .ref h0), (1, .int v), (2, .int 1), (3, .int bi)]) hx hb dX3_climb_55 hl (k := 1) rfl (nI_1 i) (by decide) rfl (fun ls hl => ?_)
            refine lv_goto (tgt := 6) hx hb dX3_climb_58 (by decide) ?_
            exact ih (i + 1) x10 (upd y2 (Int32.toNatClampNeg nd) x7) (upd y3 (Int32.toNatClampNeg nd) x9) _ _ ls (by omega) (by omega) (climb_st (by omega) (by omega) (by omega) (by rw [tx7, ex6]) ex10 hv1) (fun j hj => upd_bd (F := fun x => 0 ≤ x ∧ x ≤ 1000 + ((i + 1 : Nat) : Int)) (fun j hj => by have := hv2 j hj; omega) (by omega) j hj) ((upd_32 (by omega) (by omega)).trans hv3) (hP.sub (ws' := [(h0, .inr (3, [.int we, .ref a1, .ref a2, .ref a3, .ref a4, .int se])), (a1, .inl (g.2 0, 32, .inl f1)), (a2, .inl (g.2 0, 33, .inl (upd y2 (Int32.toNatClampNeg nd) x7))), (a3, .inl (g.2 0, 33, .inl (upd y3 (Int32.toNatClampNeg nd) x9))), (a4, .inl (g.2 0, 16, .inl f4))]) [0, 1, 2, 3, 4] rfl) (hD.sub (ws' := [(h0, .inr (3, [.int we, .ref a1, .ref a2, .ref a3, .ref a4, .int se])), (a1, .inl (g.2 0, 32, .inl f1)), (a2, .inl (g.2 0, 33, .inl (upd y2 (Int32.toNatClampNeg nd) x7))), (a3, .inl (g.2 0, 33, .inl (upd y3 (Int32.toNatClampNeg nd) x9))), (a4, .inl (g.2 0, 16, .inl f4))]) [0, 1, 2, 3, 4] (by decide) rfl) hS (lv_sub hl [0, 1, 2, 3, 4, 5] rfl)
        · skip
          obtain ⟨rfl, h11⟩ := hr2
          have h11 : ¬ ((0 : Int) ≤ nd.toInt ∧ nd.toInt ≤ (31 : Int)) := h11
          refine lv_if_eq (tgt := 61) hx hb dX3_climb_21 (by decide) (fun c12 => ?_) (fun c12 => ?_)
          · skip
            have hP9 := hP.sub (ws' := [(h0, .inr (3, [.int we, .ref a1, .ref a2, .ref a3, .ref a4, .int se])), (a1, .inl (g.2 0, 32, .inl f1)), (a2, .inl (g.2 0, 33, .inl y2)), (a3, .inl (g.2 0, 33, .inl y3)), (a4, .inl (g.2 0, 16, .inl f4))]) [0, 1, 2, 3, 4] rfl
            have hD9 := hD.sub (ws' := [(h0, .inr (3, [.int we, .ref a1, .ref a2, .ref a3, .ref a4, .int se])), (a1, .inl (g.2 0, 32, .inl f1)), (a2, .inl (g.2 0, 33, .inl y2)), (a3, .inl (g.2 0, 33, .inl y3)), (a4, .inl (g.2 0, 16, .inl f4))]) [0, 1, 2, 3, 4] (by decide) rfl
            refine W.widen (k := 0) (n := 0) (Nat.le_of_ble_eq_true rfl) (Nat.le_of_ble_eq_true rfl) ?_
            exact W.vret hx hb hr (fun t ht hW => ⟨⟨(), rfl, trivial, ⟨y2, y3, by rw [ht]; exact hP9, hD9, fun j hj => by have := hv1 j hj; first | (rw [show 32 - i = 0 by omega] at this; have q : zvis (fT f1) j 0 nd.toInt = 0 := rfl; omega) | (rw [zvis_out (by omega)] at this; omega), hv3⟩⟩, hS.F ht⟩) hS.2.2 dX3_climb_61
          · skip
            exact absurd c12 (by decide)
  exact loop6 (32 - 0 + 1) 0 v f2 f3 _ _ ls (by omega) (by omega) (fun j hj => rfl) (fun j hj => by have := hb2 j hj; omega) (rfl) hP hD hS (lv_sub hl [0, 1, 2, 3, 4, 5] rfl)

set_option maxHeartbeats 4000000 in
set_option maxRecDepth 100000 in
theorem c_X3_climb0 (l : Launch) (g : zG) (sz : Nat) (h0 : Nat) (a1 : Nat) (a2 : Nat) (a3 : Nat) (a4 : Nat) (f1 : Nat → Int32) (f2 : Nat → Int32) (f3 : Nat → Int32) (f4 : Nat → Int32) (we : Int32) (se : Int32) (v : Int32) (bi : Int32) : Met l yX3_climb (zW yX3_climb cX3_climb 6 none) ({ frames := 1, cells := 0, slots := 0, locals := 22 }) (va_Pc [.ref h0, .int v, .int 0, .int bi] (zA g [(h0, .inr (3, [.int we, .ref a1, .ref a2, .ref a3, .ref a4, .int se])), (a1, .inl (g.2 0, 32, .inl f1)), (a2, .inl (g.2 0, 33, .inl f2)), (a3, .inl (g.2 0, 33, .inl f3)), (a4, .inl (g.2 0, 16, .inl f4))] sz)) (va_Qv (fun (_ : Unit) => True) (fun _ t => ∃ (z2 : Nat → Int32), ∃ (z3 : Nat → Int32), zP g [(h0, .inr (3, [.int we, .ref a1, .ref a2, .ref a3, .ref a4, .int se])), (a1, .inl (g.2 0, 32, .inl f1)), (a2, .inl (g.2 0, 33, .inl z2)), (a3, .inl (g.2 0, 33, .inl z3)), (a4, .inl (g.2 0, 16, .inl f4))] t.heap ∧ va_D (va_A [(h0, .inr (3, [.int we, .ref a1, .ref a2, .ref a3, .ref a4, .int se])), (a1, .inl (g.2 0, 32, .inl f1)), (a2, .inl (g.2 0, 33, .inl f2)), (a3, .inl (g.2 0, 33, .inl f3)), (a4, .inl (g.2 0, 16, .inl f4))] sz) [(h0, .inr (3, [.int we, .ref a1, .ref a2, .ref a3, .ref a4, .int se])), (a1, .inl (g.2 0, 32, .inl f1)), (a2, .inl (g.2 0, 33, .inl z2)), (a3, .inl (g.2 0, 33, .inl z3)), (a4, .inl (g.2 0, 16, .inl f4))] ∧ (∀ j, z2 j = f2 j)) (va_A [(h0, .inr (3, [.int we, .ref a1, .ref a2, .ref a3, .ref a4, .int se])), (a1, .inl (g.2 0, 32, .inl f1)), (a2, .inl (g.2 0, 33, .inl f2)), (a3, .inl (g.2 0, 33, .inl f3)), (a4, .inl (g.2 0, 16, .inl f4))] sz)) 0 0 (va_A [(h0, .inr (3, [.int we, .ref a1, .ref a2, .ref a3, .ref a4, .int se])), (a1, .inl (g.2 0, 32, .inl f1)), (a2, .inl (g.2 0, 33, .inl f2)), (a3, .inl (g.2 0, 33, .inl f3)), (a4, .inl (g.2 0, 16, .inl f4))] sz) := by
  refine Met.ofW (cc := cX3_climb) (maxL := 6) (ret := none) (by decide) rfl ?_
  intro p e s m args below meth c s₁ B hml hv
  obtain ⟨rfl, hsz, hP, hK, hD0, hN⟩ := hv
  have hx := B.exec
  have hb := B.bytes
  have hr := B.returns
  have hg := zW.law (atoms_spec (ws := (zW yX3_climb cX3_climb 6 none)) B.pre)
  have hown : s.vm.findClass RX3 = some m.cls := findClass_of_methodNamed B.named
  have hlocks := B.notSynchronized
  subst hsz
  have hD := hD0.self (sz := s.heap.size)
  generalize hAe : va_A [(h0, .inr (3, [.int we, .ref a1, .ref a2, .ref a3, .ref a4, .int se])), (a1, .inl (g.2 0, 32, .inl f1)), (a2, .inl (g.2 0, 33, .inl f2)), (a3, .inl (g.2 0, 33, .inl f3)), (a4, .inl (g.2 0, 16, .inl f4))] s.heap.size = A at hD ⊢
  have hA : ∀ q : Nat, s.heap.size ≤ q → A q := fun q h => by rw [← hAe]; exact Or.inr h
  have hS : va_S A s.heap s.heap [] := va_S.rf
  have hl := lv_entry ([.ref h0, .int v, .int 0, .int bi]) (n := 6) (Nat.le_of_ble_eq_true rfl)
  rw [lg_entry_eq]
  generalize (lg_sl ([.ref h0, .int v, .int 0, .int bi]) ++ List.replicate (6 - (lg_sl ([.ref h0, .int v, .int 0, .int bi])).length) Slot.unset).toArray = ls at hl ⊢
  have hl : lv_has ls 6 [(0, .ref h0), (1, .int v), (2, .int 0), (3, .int bi)] := hl
  refine lv_iload_n hx hb dX3_climb_0 rfl (lv_at hl 1 rfl) ?_
  refine lv_istore (lv' := [(4, .int v), (0, .ref h0), (1, .int v), (2, .int 0), (3, .int bi)]) hx hb dX3_climb_1 hl (by decide) rfl (fun ls hl => ?_)
  refine lv_iconst (v := 0) hx hb dX3_climb_3 (by decide) ?_
  refine lv_istore (lv' := [(5, .int 0), (4, .int v), (0, .ref h0), (1, .int v), (2, .int 0), (3, .int bi)]) hx hb dX3_climb_4 hl (by decide) rfl (fun ls hl => ?_)
  have loop6 : ∀ (n : Nat) (i : Nat) (nd : Int32) (y2 : Nat → Int32) (y3 : Nat → Int32) (H : Heap) (locs : List Loc) (ls : Array Slot), (32 - i < n) → (i ≤ 32) → (∀ j, y2 j = f2 j) → zP g [(h0, .inr (3, [.int we, .ref a1, .ref a2, .ref a3, .ref a4, .int se])), (a1, .inl (g.2 0, 32, .inl f1)), (a2, .inl (g.2 0, 33, .inl y2)), (a3, .inl (g.2 0, 33, .inl y3)), (a4, .inl (g.2 0, 16, .inl f4))] H → va_D A [(h0, .inr (3, [.int we, .ref a1, .ref a2, .ref a3, .ref a4, .int se])), (a1, .inl (g.2 0, 32, .inl f1)), (a2, .inl (g.2 0, 33, .inl y2)), (a3, .inl (g.2 0, 33, .inl y3)), (a4, .inl (g.2 0, 16, .inl f4))] → va_S A s.heap H locs → lv_has ls 6 [(5, .int (nI i)), (4, .int nd), (0, .ref h0), (1, .int v), (2, .int 0), (3, .int bi)] → W p l e (headSpec (zW yX3_climb cX3_climb 6 none) ({ frames := 1, cells := 0, slots := 0, locals := 22 })).room s m ([.ref h0, .int v, .int 0, .int bi] : List Value).toArray below meth c H locs 0 0 (MQ below (va_Qv (fun (_ : Unit) => True) (fun _ t => ∃ (z2 : Nat → Int32), ∃ (z3 : Nat → Int32), zP g [(h0, .inr (3, [.int we, .ref a1, .ref a2, .ref a3, .ref a4, .int se])), (a1, .inl (g.2 0, 32, .inl f1)), (a2, .inl (g.2 0, 33, .inl z2)), (a3, .inl (g.2 0, 33, .inl z3)), (a4, .inl (g.2 0, 16, .inl f4))] t.heap ∧ va_D A [(h0, .inr (3, [.int we, .ref a1, .ref a2, .ref a3, .ref a4, .int se])), (a1, .inl (g.2 0, 32, .inl f1)), (a2, .inl (g.2 0, 33, .inl z2)), (a3, .inl (g.2 0, 33, .inl z3)), (a4, .inl (g.2 0, 16, .inl f4))] ∧ (∀ j, z2 j = f2 j)) A) ([.ref h0, .int v, .int 0, .int bi] : List Value).toArray s 0 0 A) (F0 m 6 ls []) := by
    intro n
    induction n with
    | zero =>
      intro i nd y2 y3 H locs ls hn hi hv1 hP hD hS hl
      exact absurd hn (Nat.not_lt_zero _)
    | succ n ih =>
      intro i nd y2 y3 H locs ls hn hi hv1 hP hD hS hl
      refine lv_iload hx hb dX3_climb_6 (lv_at hl 0 rfl) ?_
      refine lv_bipush (v := 32) hx hb dX3_climb_8 (by decide) ?_
      refine lv_icmp_ge (tgt := 61) hx hb dX3_climb_10 (by decide) (fun c1 => ?_) (fun c1 => ?_)
      · skip
        have c1 : 32 ≤ ((i : Nat) : Int) := (z_le (by decide : (32 : Int32).toInt = 32) (nI_toInt (by omega))).mp c1
        have hP9 := hP.sub (ws' := [(h0, .inr (3, [.int we, .ref a1, .ref a2, .ref a3, .ref a4, .int se])), (a1, .inl (g.2 0, 32, .inl f1)), (a2, .inl (g.2 0, 33, .inl y2)), (a3, .inl (g.2 0, 33, .inl y3)), (a4, .inl (g.2 0, 16, .inl f4))]) [0, 1, 2, 3, 4] rfl
        have hD9 := hD.sub (ws' := [(h0, .inr (3, [.int we, .ref a1, .ref a2, .ref a3, .ref a4, .int se])), (a1, .inl (g.2 0, 32, .inl f1)), (a2, .inl (g.2 0, 33, .inl y2)), (a3, .inl (g.2 0, 33, .inl y3)), (a4, .inl (g.2 0, 16, .inl f4))]) [0, 1, 2, 3, 4] (by decide) rfl
        refine W.widen (k := 0) (n := 0) (Nat.le_of_ble_eq_true rfl) (Nat.le_of_ble_eq_true rfl) ?_
        exact W.vret hx hb hr (fun t ht hW => ⟨⟨(), rfl, trivial, ⟨y2, y3, by rw [ht]; exact hP9, hD9, hv1⟩⟩, hS.F ht⟩) hS.2.2 dX3_climb_61
      · skip
        have c1 : ¬ (32 ≤ ((i : Nat) : Int)) := fun q => c1 ((z_le (by decide : (32 : Int32).toInt = 32) (nI_toInt (by omega))).mpr q)
        refine lv_iload hx hb dX3_climb_13 (lv_at hl 1 rfl) ?_
        refine lv_iconst (v := 0) hx hb dX3_climb_15 (by decide) ?_
        refine lv_bipush (v := 31) hx hb dX3_climb_16 (by decide) ?_
        have hPc := hP.sub (ws' := []) [] rfl
        refine zc_i (va_runSN (As := [.int nd, .int 0, .int 31]) (rest := []) ⟨hx, hb, hml, hown, hg⟩ (c_X8_within l g nd (0 : Int32) (31 : Int32) ) ⟨va_cnB 3 hg (z_gN mm_409) rfl rfl rfl (hN.at 7 rfl) (hg _ mm_108) (by decide +kernel) ⟨Nat.le_of_ble_eq_true rfl, Nat.le_of_ble_eq_true rfl⟩, (hg _ mm_408), trivial⟩ (zR.pre [.int nd, .int 0, .int 31] hPc hK hN) rfl rfl hl.1 rfl (lv_room (Nat.le_of_ble_eq_true rfl)) dX3_climb_18 ⟨Nat.le_of_ble_eq_true rfl, Nat.le_of_ble_eq_true rfl⟩) (fun r2 hr2 => ?_)
        rcases hr2 with hr2 | hr2
        · skip
          obtain ⟨rfl, h3, h4⟩ := hr2
          have h3 : (0 : Int) ≤ nd.toInt := h3
          have h4 : nd.toInt ≤ (31 : Int) := h4
          refine lv_if_eq (tgt := 61) hx hb dX3_climb_21 (by decide) (fun c5 => ?_) (fun c5 => ?_)
          · skip
            exact absurd c5 (by decide)
          · skip
            refine lv_aload_n hx hb dX3_climb_24 rfl (lv_at hl 2 rfl) ?_
            refine va_get (D := g.1) (ci := 3) (v := .ref a2) (C := RX3) (T := TX3) (N := 6) hx hb hg inG3 hown hK hP 0 rfl rfl 2 (by decide) (hg _ mm_318) (fun _ h9 => h9) rfl dX3_climb_25 ?_
            refine lv_iload hx hb dX3_climb_28 (lv_at hl 1 rfl) ?_
            refine lv_dup2_11 hx hb dX3_climb_30 rfl rfl ?_
            refine va_iald hx hb hK hP 2 0 rfl rfl (z_in rfl (by omega) (by omega)) dX3_climb_31 ?_
            refine lv_topi (fun x6 ex6 => ?_)
            have ex6 : x6 = y2 (Int32.toNatClampNeg nd) := ex6.trans (congrArg y2 rfl)
            have rg := z_rng x6
            refine lv_iload_n hx hb dX3_climb_32 rfl (lv_at hl 4 rfl) ?_
            refine lv_iadd hx hb dX3_climb_33 ?_
            refine lv_topi (fun x7 ex7 => ?_)
            have tx7 : x7.toInt = x6.toInt + 0 := by rw [ex7]; exact z_add rfl (by decide : (0 : Int32).toInt = 0) (by omega) (by omega)
            refine va_iast hx hb hK hP hD hS 2 0 rfl rfl (z_in rfl (by omega) (by omega)) dX3_climb_34 (fun H locs hP hD hS => ?_)
            have hP : zP g [(h0, .inr (3, [.int we, .ref a1, .ref a2, .ref a3, .ref a4, .int se])), (a1, .inl (g.2 0, 32, .inl f1)), (a2, .inl (g.2 0, 33, .inl (upd y2 (Int32.toNatClampNeg nd) x7))), (a3, .inl (g.2 0, 33, .inl y3)), (a4, .inl (g.2 0, 16, .inl f4))] H := hP
            have hD : va_D A [(h0, .inr (3, [.int we, .ref a1, .ref a2, .ref a3, .ref a4, .int se])), (a1, .inl (g.2 0, 32, .inl f1)), (a2, .inl (g.2 0, 33, .inl (upd y2 (Int32.toNatClampNeg nd) x7))), (a3, .inl (g.2 0, 33, .inl y3)), (a4, .inl (g.2 0, 16, .inl f4))] := hD
            refine lv_aload_n hx hb dX3_climb_35 rfl (lv_at hl 2 rfl) ?_
            refine va_get (D := g.1) (ci := 3) (v := .ref a3) (C := RX3) (T := TX3) (N := 6) hx hb hg inG3 hown hK hP 0 rfl rfl 3 (by decide) (hg _ mm_319) (fun _ h9 => h9) rfl dX3_climb_36 ?_
            refine lv_iload hx hb dX3_climb_39 (lv_at hl 1 rfl) ?_
            refine lv_dup2_11 hx hb dX3_climb_41 rfl rfl ?_
            refine va_iald hx hb hK hP 3 0 rfl rfl (z_in rfl (by omega) (by omega)) dX3_climb_42 ?_
            refine lv_topi (fun x8 ex8 => ?_)
            have ex8 : x8 = y3 (Int32.toNatClampNeg nd) := ex8.trans (congrArg y3 rfl)
            refine lv_iload_n hx hb dX3_climb_43 rfl (lv_at hl 5 rfl) ?_
            refine lv_ior hx hb dX3_climb_44 ?_
            refine lv_topi (fun x9 ex9 => ?_)
            refine va_iast hx hb hK hP hD hS 3 0 rfl rfl (z_in rfl (by omega) (by omega)) dX3_climb_45 (fun H locs hP hD hS => ?_)
            have hP : zP g [(h0, .inr (3, [.int we, .ref a1, .ref a2, .ref a3, .ref a4, .int se])), (a1, .inl (g.2 0, 32, .inl f1)), (a2, .inl (g.2 0, 33, .inl (upd y2 (Int32.toNatClampNeg nd) x7))), (a3, .inl (g.2 0, 33, .inl (upd y3 (Int32.toNatClampNeg nd) x9))), (a4, .inl (g.2 0, 16, .inl f4))] H := hP
            have hD : va_D A [(h0, .inr (3, [.int we, .ref a1, .ref a2, .ref a3, .ref a4, .int se])), (a1, .inl (g.2 0, 32, .inl f1)), (a2, .inl (g.2 0, 33, .inl (upd y2 (Int32.toNatClampNeg nd) x7))), (a3, .inl (g.2 0, 33, .inl (upd y3 (Int32.toNatClampNeg nd) x9))), (a4, .inl (g.2 0, 16, .inl f4))] := hD
            refine lv_aload_n hx hb dX3_climb_46 rfl (lv_at hl 2 rfl) ?_
            refine va_get (D := g.1) (ci := 3) (v := .ref a1) (C := RX3) (T := TX3) (N := 6) hx hb hg inG3 hown hK hP 0 rfl rfl 1 (by decide) (hg _ mm_317) (fun _ h9 => h9) rfl dX3_climb_47 ?_
            refine lv_iload hx hb dX3_climb_50 (lv_at hl 1 rfl) ?_
            refine va_iald hx hb hK hP 1 0 rfl rfl (z_in rfl (by omega) (by omega)) dX3_climb_52 ?_
            refine lv_topi (fun x10 ex10 => ?_)
            have ex10 : x10 = f1 (Int32.toNatClampNeg nd) := ex10.trans (congrArg f1 rfl)
            refine lv_istore (lv' := [(4, .int x10), (5, .int (nI i)), (0, .ref h0), (1, .int v), (2, .int 0), (3, .int bi)]) hx hb dX3_climb_53 hl (by decide) rfl (fun ls hl => ?_)
            refine lv_iinc (v := (nI (i + 1))) (lv' := [(5, .int (nI (i + 1))), (4, .int x10), (0, .ref h0), (1, .int v), (2, .int 0), (3, .int bi)]) hx hb dX3_climb_55 hl (k := 1) rfl (nI_1 i) (by decide) rfl (fun ls hl => ?_)
            refine lv_goto (tgt := 6) hx hb dX3_climb_58 (by decide) ?_
            exact ih (i + 1) x10 (upd y2 (Int32.toNatClampNeg nd) x7) (upd y3 (Int32.toNatClampNeg nd) x9) _ _ ls (by omega) (by omega) (fun j => (upd_same (by rw [ex7, ex6]; exact Int32.add_zero _) j).trans (hv1 j)) (hP.sub (ws' := [(h0, .inr (3, [.int we, .ref a1, .ref a2, .ref a3, .ref a4, .int se])), (a1, .inl (g.2 0, 32, .inl f1)), (a2, .inl (g.2 0, 33, .inl (upd y2 (Int32.toNatClampNeg nd) x7))), (a3, .inl (g.2 0, 33, .inl (upd y3 (Int32.toNatClampNeg nd) x9))), (a4, .inl (g.2 0, 16, .inl f4))]) [0, 1, 2, 3, 4] rfl) (hD.sub (ws' := [(h0, .inr (3, [.int we, .ref a1, .ref a2, .ref a3, .ref a4, .int se])), (a1, .inl (g.2 0, 32, .inl f1)), (a2, .inl (g.2 0, 33, .inl (upd y2 (Int32.toNatClampNeg nd) x7))), (a3, .inl (g.2 0, 33, .inl (upd y3 (Int32.toNatClampNeg nd) x9))), (a4, .inl (g.2 0, 16, .inl f4))]) [0, 1, 2, 3, 4] (by decide) rfl) hS (lv_sub hl [0, 1, 2, 3, 4, 5] rfl)
        · skip
          obtain ⟨rfl, h11⟩ := hr2
          have h11 : ¬ ((0 : Int) ≤ nd.toInt ∧ nd.toInt ≤ (31 : Int)) := h11
          refine lv_if_eq (tgt := 61) hx hb dX3_climb_21 (by decide) (fun c12 => ?_) (fun c12 => ?_)
          · skip
            have hP9 := hP.sub (ws' := [(h0, .inr (3, [.int we, .ref a1, .ref a2, .ref a3, .ref a4, .int se])), (a1, .inl (g.2 0, 32, .inl f1)), (a2, .inl (g.2 0, 33, .inl y2)), (a3, .inl (g.2 0, 33, .inl y3)), (a4, .inl (g.2 0, 16, .inl f4))]) [0, 1, 2, 3, 4] rfl
            have hD9 := hD.sub (ws' := [(h0, .inr (3, [.int we, .ref a1, .ref a2, .ref a3, .ref a4, .int se])), (a1, .inl (g.2 0, 32, .inl f1)), (a2, .inl (g.2 0, 33, .inl y2)), (a3, .inl (g.2 0, 33, .inl y3)), (a4, .inl (g.2 0, 16, .inl f4))]) [0, 1, 2, 3, 4] (by decide) rfl
            refine W.widen (k := 0) (n := 0) (Nat.le_of_ble_eq_true rfl) (Nat.le_of_ble_eq_true rfl) ?_
            exact W.vret hx hb hr (fun t ht hW => ⟨⟨(), rfl, trivial, ⟨y2, y3, by rw [ht]; exact hP9, hD9, hv1⟩⟩, hS.F ht⟩) hS.2.2 dX3_climb_61
          · skip
            exact absurd c12 (by decide)
  exact loop6 (32 - 0 + 1) 0 v f2 f3 _ _ ls (by omega) (by omega) (fun j => rfl) hP hD hS (lv_sub hl [0, 1, 2, 3, 4, 5] rfl)

set_option maxHeartbeats 4000000 in
set_option maxRecDepth 100000 in
theorem c_X3_hang (l : Launch) (g : zG) (sz : Nat) (h0 : Nat) (a1 : Nat) (a2 : Nat) (a3 : Nat) (a4 : Nat) (f1 : Nat → Int32) (f2 : Nat → Int32) (f3 : Nat → Int32) (f4 : Nat → Int32) (we : Int32) (se : Int32) (nd0 : Int32) (up : Int32) (hse : 0 ≤ se.toInt ∧ se.toInt ≤ 16) (hnd : 0 ≤ nd0.toInt ∧ nd0.toInt ≤ 31) : Met l yX3_hang (zW yX3_hang cX3_hang 4 none) ({ frames := 2, cells := 0, slots := 0, locals := 47 }) (va_Pc [.ref h0, .int nd0, .int up] (zA g [(h0, .inr (3, [.int we, .ref a1, .ref a2, .ref a3, .ref a4, .int se])), (a1, .inl (g.2 0, 32, .inl f1)), (a2, .inl (g.2 0, 33, .inl f2)), (a3, .inl (g.2 0, 33, .inl f3)), (a4, .inl (g.2 0, 16, .inl f4))] sz)) (va_Qv (fun (_ : Unit) => True) (fun _ t => ∃ (z2 : Nat → Int32), ∃ (z3 : Nat → Int32), zP g [(h0, .inr (3, [.int we, .ref a1, .ref a2, .ref a3, .ref a4, .int se])), (a1, .inl (g.2 0, 32, .inl (upd f1 nd0.toNatClampNeg up))), (a2, .inl (g.2 0, 33, .inl z2)), (a3, .inl (g.2 0, 33, .inl z3)), (a4, .inl (g.2 0, 16, .inl f4))] t.heap ∧ va_D (va_A [(h0, .inr (3, [.int we, .ref a1, .ref a2, .ref a3, .ref a4, .int se])), (a1, .inl (g.2 0, 32, .inl f1)), (a2, .inl (g.2 0, 33, .inl f2)), (a3, .inl (g.2 0, 33, .inl f3)), (a4, .inl (g.2 0, 16, .inl f4))] sz) [(h0, .inr (3, [.int we, .ref a1, .ref a2, .ref a3, .ref a4, .int se])), (a1, .inl (g.2 0, 32, .inl (upd f1 nd0.toNatClampNeg up))), (a2, .inl (g.2 0, 33, .inl z2)), (a3, .inl (g.2 0, 33, .inl z3)), (a4, .inl (g.2 0, 16, .inl f4))] ∧ (∀ j, j < 32 → (z2 j).toInt = zblN (fT (upd f1 nd0.toNatClampNeg up)) j 16) ∧ (z2 32 = f2 32)) (va_A [(h0, .inr (3, [.int we, .ref a1, .ref a2, .ref a3, .ref a4, .int se])), (a1, .inl (g.2 0, 32, .inl f1)), (a2, .inl (g.2 0, 33, .inl f2)), (a3, .inl (g.2 0, 33, .inl f3)), (a4, .inl (g.2 0, 16, .inl f4))] sz)) 0 0 (va_A [(h0, .inr (3, [.int we, .ref a1, .ref a2, .ref a3, .ref a4, .int se])), (a1, .inl (g.2 0, 32, .inl f1)), (a2, .inl (g.2 0, 33, .inl f2)), (a3, .inl (g.2 0, 33, .inl f3)), (a4, .inl (g.2 0, 16, .inl f4))] sz) := by
  refine Met.ofW (cc := cX3_hang) (maxL := 4) (ret := none) (by decide) rfl ?_
  intro p e s m args below meth c s₁ B hml hv
  obtain ⟨rfl, hsz, hP, hK, hD0, hN⟩ := hv
  have hx := B.exec
  have hb := B.bytes
  have hr := B.returns
  have hg := zW.law (atoms_spec (ws := (zW yX3_hang cX3_hang 4 none)) B.pre)
  have hown : s.vm.findClass RX3 = some m.cls := findClass_of_methodNamed B.named
  have hlocks := B.notSynchronized
  subst hsz
  have hD := hD0.self (sz := s.heap.size)
  generalize hAe : va_A [(h0, .inr (3, [.int we, .ref a1, .ref a2, .ref a3, .ref a4, .int se])), (a1, .inl (g.2 0, 32, .inl f1)), (a2, .inl (g.2 0, 33, .inl f2)), (a3, .inl (g.2 0, 33, .inl f3)), (a4, .inl (g.2 0, 16, .inl f4))] s.heap.size = A at hD ⊢
  have hA : ∀ q : Nat, s.heap.size ≤ q → A q := fun q h => by rw [← hAe]; exact Or.inr h
  have hS : va_S A s.heap s.heap [] := va_S.rf
  have hl := lv_entry ([.ref h0, .int nd0, .int up]) (n := 4) (Nat.le_of_ble_eq_true rfl)
  rw [lg_entry_eq]
  generalize (lg_sl ([.ref h0, .int nd0, .int up]) ++ List.replicate (4 - (lg_sl ([.ref h0, .int nd0, .int up])).length) Slot.unset).toArray = ls at hl ⊢
  have hl : lv_has ls 4 [(0, .ref h0), (1, .int nd0), (2, .int up)] := hl
  refine lv_iload_n hx hb dX3_hang_0 rfl (lv_at hl 1 rfl) ?_
  refine lv_iconst (v := 0) hx hb dX3_hang_1 (by decide) ?_
  refine lv_bipush (v := 31) hx hb dX3_hang_2 (by decide) ?_
  have hPc := hP.sub (ws' := []) [] rfl
  refine zc_i (va_runSN (As := [.int nd0, .int 0, .int 31]) (rest := []) ⟨hx, hb, hml, hown, hg⟩ (c_X8_within l g nd0 (0 : Int32) (31 : Int32) ) ⟨va_cnB 3 hg (z_gN mm_409) rfl rfl rfl (hN.at 7 rfl) (hg _ mm_108) (by decide +kernel) ⟨Nat.le_of_ble_eq_true rfl, Nat.le_of_ble_eq_true rfl⟩, (hg _ mm_408), trivial⟩ (zR.pre [.int nd0, .int 0, .int 31] hPc hK hN) rfl rfl hl.1 rfl (lv_room (Nat.le_of_ble_eq_true rfl)) dX3_hang_4 ⟨Nat.le_of_ble_eq_true rfl, Nat.le_of_ble_eq_true rfl⟩) (fun r1 hr1 => ?_)
  rcases hr1 with hr1 | hr1
  · skip
    obtain ⟨rfl, h2, h3⟩ := hr1
    have h2 : (0 : Int) ≤ nd0.toInt := h2
    have h3 : nd0.toInt ≤ (31 : Int) := h3
    refine lv_if_ne (tgt := 11) hx hb dX3_hang_7 (by decide) (fun c4 => ?_) (fun c4 => ?_)
    · skip
      refine lv_aload_n hx hb dX3_hang_11 rfl (lv_at hl 0 rfl) ?_
      refine va_get (D := g.1) (ci := 3) (v := .ref a1) (C := RX3) (T := TX3) (N := 6) hx hb hg inG3 hown hK hP 0 rfl rfl 1 (by decide) (hg _ mm_317) (fun _ h9 => h9) rfl dX3_hang_12 ?_
      refine lv_iload_n hx hb dX3_hang_15 rfl (lv_at hl 1 rfl) ?_
      refine lv_iload_n hx hb dX3_hang_16 rfl (lv_at hl 2 rfl) ?_
      refine va_iast hx hb hK hP hD hS 1 0 rfl rfl (z_in rfl (by omega) (by omega)) dX3_hang_17 (fun H locs hP hD hS => ?_)
      have hP : zP g [(h0, .inr (3, [.int we, .ref a1, .ref a2, .ref a3, .ref a4, .int se])), (a1, .inl (g.2 0, 32, .inl (upd f1 (Int32.toNatClampNeg nd0) up))), (a2, .inl (g.2 0, 33, .inl f2)), (a3, .inl (g.2 0, 33, .inl f3)), (a4, .inl (g.2 0, 16, .inl f4))] H := hP
      have hD : va_D A [(h0, .inr (3, [.int we, .ref a1, .ref a2, .ref a3, .ref a4, .int se])), (a1, .inl (g.2 0, 32, .inl (upd f1 (Int32.toNatClampNeg nd0) up))), (a2, .inl (g.2 0, 33, .inl f2)), (a3, .inl (g.2 0, 33, .inl f3)), (a4, .inl (g.2 0, 16, .inl f4))] := hD
      refine lv_iconst (v := 0) hx hb dX3_hang_18 (by decide) ?_
      refine lv_istore_n (lv' := [(3, .int 0), (0, .ref h0), (1, .int nd0), (2, .int up)]) hx hb dX3_hang_19 rfl hl (by decide) rfl (fun ls hl => ?_)
      have loop20 : ∀ (n : Nat) (i : Nat) (y2 : Nat → Int32) (y3 : Nat → Int32) (H : Heap) (locs : List Loc) (ls : Array Slot), (32 - i < n) → (i ≤ 32) → (∀ j, j < i → y2 j = 0) → (y2 32 = f2 32) → zP g [(h0, .inr (3, [.int we, .ref a1, .ref a2, .ref a3, .ref a4, .int se])), (a1, .inl (g.2 0, 32, .inl (upd f1 (Int32.toNatClampNeg nd0) up))), (a2, .inl (g.2 0, 33, .inl y2)), (a3, .inl (g.2 0, 33, .inl y3)), (a4, .inl (g.2 0, 16, .inl f4))] H → va_D A [(h0, .inr (3, [.int we, .ref a1, .ref a2, .ref a3, .ref a4, .int se])), (a1, .inl (g.2 0, 32, .inl (upd f1 (Int32.toNatClampNeg nd0) up))), (a2, .inl (g.2 0, 33, .inl y2)), (a3, .inl (g.2 0, 33, .inl y3)), (a4, .inl (g.2 0, 16, .inl f4))] → va_S A s.heap H locs → lv_has ls 4 [(3, .int (nI i)), (0, .ref h0), (1, .int nd0), (2, .int up)] → W p l e (headSpec (zW yX3_hang cX3_hang 4 none) ({ frames := 2, cells := 0, slots := 0, locals := 47 })).room s m ([.ref h0, .int nd0, .int up] : List Value).toArray below meth c H locs 0 0 (MQ below (va_Qv (fun (_ : Unit) => True) (fun _ t => ∃ (z2 : Nat → Int32), ∃ (z3 : Nat → Int32), zP g [(h0, .inr (3, [.int we, .ref a1, .ref a2, .ref a3, .ref a4, .int se])), (a1, .inl (g.2 0, 32, .inl (upd f1 nd0.toNatClampNeg up))), (a2, .inl (g.2 0, 33, .inl z2)), (a3, .inl (g.2 0, 33, .inl z3)), (a4, .inl (g.2 0, 16, .inl f4))] t.heap ∧ va_D A [(h0, .inr (3, [.int we, .ref a1, .ref a2, .ref a3, .ref a4, .int se])), (a1, .inl (g.2 0, 32, .inl (upd f1 nd0.toNatClampNeg up))), (a2, .inl (g.2 0, 33, .inl z2)), (a3, .inl (g.2 0, 33, .inl z3)), (a4, .inl (g.2 0, 16, .inl f4))] ∧ (∀ j, j < 32 → (z2 j).toInt = zblN (fT (upd f1 nd0.toNatClampNeg up)) j 16) ∧ (z2 32 = f2 32)) A) ([.ref h0, .int nd0, .int up] : List Value).toArray s 0 0 A) (F0 m 20 ls []) := by
        intro n
        induction n with
        | zero =>
          intro i y2 y3 H locs ls hn hi hv1 hv3 hP hD hS hl
          exact absurd hn (Nat.not_lt_zero _)
        | succ n ih =>
          intro i y2 y3 H locs ls hn hi hv1 hv3 hP hD hS hl
          refine lv_iload_n hx hb dX3_hang_20 rfl (lv_at hl 0 rfl) ?_
          refine lv_bipush (v := 32) hx hb dX3_hang_21 (by decide) ?_
          refine lv_icmp_ge (tgt := 46) hx hb dX3_hang_23 (by decide) (fun c5 => ?_) (fun c5 => ?_)
          · skip
            have c5 : 32 ≤ ((i : Nat) : Int) := (z_le (by decide : (32 : Int32).toInt = 32) (nI_toInt (by omega))).mp c5
            refine lv_iconst (v := 0) hx hb dX3_hang_46 (by decide) ?_
            refine lv_istore_n (lv' := [(3, .int 0), (0, .ref h0), (1, .int nd0), (2, .int up)]) hx hb dX3_hang_47 rfl hl (by decide) rfl (fun ls hl => ?_)
            have loop48 : ∀ (n : Nat) (k : Nat) (w2 : Nat → Int32) (w3 : Nat → Int32) (H : Heap) (locs : List Loc) (ls : Array Slot), (16 - k < n) → (k ≤ 16) → (∀ j, j < 32 → (w2 j).toInt = zblN (fT (upd f1 (Int32.toNatClampNeg nd0) up)) j k) → (w2 32 = f2 32) → zP g [(h0, .inr (3, [.int we, .ref a1, .ref a2, .ref a3, .ref a4, .int se])), (a1, .inl (g.2 0, 32, .inl (upd f1 (Int32.toNatClampNeg nd0) up))), (a2, .inl (g.2 0, 33, .inl w2)), (a3, .inl (g.2 0, 33, .inl w3)), (a4, .inl (g.2 0, 16, .inl f4))] H → va_D A [(h0, .inr (3, [.int we, .ref a1, .ref a2, .ref a3, .ref a4, .int se])), (a1, .inl (g.2 0, 32, .inl (upd f1 (Int32.toNatClampNeg nd0) up))), (a2, .inl (g.2 0, 33, .inl w2)), (a3, .inl (g.2 0, 33, .inl w3)), (a4, .inl (g.2 0, 16, .inl f4))] → va_S A s.heap H locs → lv_has ls 4 [(3, .int (nI k)), (0, .ref h0), (1, .int nd0), (2, .int up)] → W p l e (headSpec (zW yX3_hang cX3_hang 4 none) ({ frames := 2, cells := 0, slots := 0, locals := 47 })).room s m ([.ref h0, .int nd0, .int up] : List Value).toArray below meth c H locs 0 0 (MQ below (va_Qv (fun (_ : Unit) => True) (fun _ t => ∃ (z2 : Nat → Int32), ∃ (z3 : Nat → Int32), zP g [(h0, .inr (3, [.int we, .ref a1, .ref a2, .ref a3, .ref a4, .int se])), (a1, .inl (g.2 0, 32, .inl (upd f1 nd0.toNatClampNeg up))), (a2, .inl (g.2 0, 33, .inl z2)), (a3, .inl (g.2 0, 33, .inl z3)), (a4, .inl (g.2 0, 16, .inl f4))] t.heap ∧ va_D A [(h0, .inr (3, [.int we, .ref a1, .ref a2, .ref a3, .ref a4, .int se])), (a1, .inl (g.2 0, 32, .inl (upd f1 nd0.toNatClampNeg up))), (a2, .inl (g.2 0, 33, .inl z2)), (a3, .inl (g.2 0, 33, .inl z3)), (a4, .inl (g.2 0, 16, .inl f4))] ∧ (∀ j, j < 32 → (z2 j).toInt = zblN (fT (upd f1 nd0.toNatClampNeg up)) j 16) ∧ (z2 32 = f2 32)) A) ([.ref h0, .int nd0, .int up] : List Value).toArray s 0 0 A) (F0 m 48 ls []) := by
              intro n
              induction n with
              | zero =>
                intro k w2 w3 H locs ls hn hk hv4 hv5 hP hD hS hl
                exact absurd hn (Nat.not_lt_zero _)
              | succ n ih =>
                intro k w2 w3 H locs ls hn hk hv4 hv5 hP hD hS hl
                refine lv_iload_n hx hb dX3_hang_48 rfl (lv_at hl 0 rfl) ?_
                refine lv_bipush (v := 16) hx hb dX3_hang_49 (by decide) ?_
                refine lv_icmp_ge (tgt := 67) hx hb dX3_hang_51 (by decide) (fun c6 => ?_) (fun c6 => ?_)
                · skip
                  have c6 : 16 ≤ ((k : Nat) : Int) := (z_le (by decide : (16 : Int32).toInt = 16) (nI_toInt (by omega))).mp c6
                  refine lv_iconst (v := 0) hx hb dX3_hang_67 (by decide) ?_
                  refine lv_istore_n (lv' := [(3, .int 0), (0, .ref h0), (1, .int nd0), (2, .int up)]) hx hb dX3_hang_68 rfl hl (by decide) rfl (fun ls hl => ?_)
                  have loop69 : ∀ (n : Nat) (n3 : Nat) (v2 : Nat → Int32) (v3 : Nat → Int32) (H : Heap) (locs : List Loc) (ls : Array Slot), (16 - n3 < n) → (n3 ≤ 16) → (∀ j, v2 j = w2 j) → zP g [(h0, .inr (3, [.int we, .ref a1, .ref a2, .ref a3, .ref a4, .int se])), (a1, .inl (g.2 0, 32, .inl (upd f1 (Int32.toNatClampNeg nd0) up))), (a2, .inl (g.2 0, 33, .inl v2)), (a3, .inl (g.2 0, 33, .inl v3)), (a4, .inl (g.2 0, 16, .inl f4))] H → va_D A [(h0, .inr (3, [.int we, .ref a1, .ref a2, .ref a3, .ref a4, .int se])), (a1, .inl (g.2 0, 32, .inl (upd f1 (Int32.toNatClampNeg nd0) up))), (a2, .inl (g.2 0, 33, .inl v2)), (a3, .inl (g.2 0, 33, .inl v3)), (a4, .inl (g.2 0, 16, .inl f4))] → va_S A s.heap H locs → lv_has ls 4 [(3, .int (nI n3)), (0, .ref h0), (1, .int nd0), (2, .int up)] → W p l e (headSpec (zW yX3_hang cX3_hang 4 none) ({ frames := 2, cells := 0, slots := 0, locals := 47 })).room s m ([.ref h0, .int nd0, .int up] : List Value).toArray below meth c H locs 0 0 (MQ below (va_Qv (fun (_ : Unit) => True) (fun _ t => ∃ (z2 : Nat → Int32), ∃ (z3 : Nat → Int32), zP g [(h0, .inr (3, [.int we, .ref a1, .ref a2, .ref a3, .ref a4, .int se])), (a1, .inl (g.2 0, 32, .inl (upd f1 nd0.toNatClampNeg up))), (a2, .inl (g.2 0, 33, .inl z2)), (a3, .inl (g.2 0, 33, .inl z3)), (a4, .inl (g.2 0, 16, .inl f4))] t.heap ∧ va_D A [(h0, .inr (3, [.int we, .ref a1, .ref a2, .ref a3, .ref a4, .int se])), (a1, .inl (g.2 0, 32, .inl (upd f1 nd0.toNatClampNeg up))), (a2, .inl (g.2 0, 33, .inl z2)), (a3, .inl (g.2 0, 33, .inl z3)), (a4, .inl (g.2 0, 16, .inl f4))] ∧ (∀ j, j < 32 → (z2 j).toInt = zblN (fT (upd f1 nd0.toNatClampNeg up)) j 16) ∧ (z2 32 = f2 32)) A) ([.ref h0, .int nd0, .int up] : List Value).toArray s 0 0 A) (F0 m 69 ls []) := by
                    intro n
                    induction n with
                    | zero =>
                      intro n3 v2 v3 H locs ls hn hn3 hv6 hP hD hS hl
                      exact absurd hn (Nat.not_lt_zero _)
                    | succ n ih =>
                      intro n3 v2 v3 H locs ls hn hn3 hv6 hP hD hS hl
                      refine lv_iload_n hx hb dX3_hang_69 rfl (lv_at hl 0 rfl) ?_
                      refine lv_aload_n hx hb dX3_hang_70 rfl (lv_at hl 1 rfl) ?_
                      refine va_get (D := g.1) (ci := 3) (v := .int se) (C := RX3) (T := TX3) (N := 6) hx hb hg inG3 hown hK hP 0 rfl rfl 5 (by decide) (hg _ mm_321) (fun _ h9 => h9) rfl dX3_hang_71 ?_
                      refine lv_icmp_ge (tgt := 97) hx hb dX3_hang_74 (by decide) (fun c7 => ?_) (fun c7 => ?_)
                      · skip
                        have c7 : se.toInt ≤ ((n3 : Nat) : Int) := (z_le rfl (nI_toInt (by omega))).mp c7
                        have hP9 := hP.sub (ws' := [(h0, .inr (3, [.int we, .ref a1, .ref a2, .ref a3, .ref a4, .int se])), (a1, .inl (g.2 0, 32, .inl (upd f1 nd0.toNatClampNeg up))), (a2, .inl (g.2 0, 33, .inl v2)), (a3, .inl (g.2 0, 33, .inl v3)), (a4, .inl (g.2 0, 16, .inl f4))]) [0, 1, 2, 3, 4] rfl
                        have hD9 := hD.sub (ws' := [(h0, .inr (3, [.int we, .ref a1, .ref a2, .ref a3, .ref a4, .int se])), (a1, .inl (g.2 0, 32, .inl (upd f1 nd0.toNatClampNeg up))), (a2, .inl (g.2 0, 33, .inl v2)), (a3, .inl (g.2 0, 33, .inl v3)), (a4, .inl (g.2 0, 16, .inl f4))]) [0, 1, 2, 3, 4] (by decide) rfl
                        refine W.widen (k := 0) (n := 0) (Nat.le_of_ble_eq_true rfl) (Nat.le_of_ble_eq_true rfl) ?_
                        exact W.vret hx hb hr (fun t ht hW => ⟨⟨(), rfl, trivial, ⟨v2, v3, by rw [ht]; exact hP9, hD9, fun j hj => by rw [hv6 j, hv4 j hj, show k = 16 by omega], (hv6 32).trans hv5⟩⟩, hS.F ht⟩) hS.2.2 dX3_hang_97
                      · skip
                        have c7 : ¬ (se.toInt ≤ ((n3 : Nat) : Int)) := fun q => c7 ((z_le rfl (nI_toInt (by omega))).mpr q)
                        refine lv_aload_n hx hb dX3_hang_77 rfl (lv_at hl 1 rfl) ?_
                        refine lv_aload_n hx hb dX3_hang_78 rfl (lv_at hl 1 rfl) ?_
                        refine va_get (D := g.1) (ci := 3) (v := .ref a4) (C := RX3) (T := TX3) (N := 6) hx hb hg inG3 hown hK hP 0 rfl rfl 4 (by decide) (hg _ mm_320) (fun _ h9 => h9) rfl dX3_hang_79 ?_
                        refine lv_iload_n hx hb dX3_hang_82 rfl (lv_at hl 0 rfl) ?_
                        refine va_iald hx hb hK hP 4 0 rfl rfl (z_in (nI_toInt (by omega)) (by omega) (by omega)) dX3_hang_83 ?_
                        refine lv_topi (fun x8 ex8 => ?_)
                        have ex8 : x8 = f4 n3 := ex8.trans (congrArg f4 (nI_clamp (by omega)))
                        refine lv_iconst (v := 0) hx hb dX3_hang_84 (by decide) ?_
                        refine lv_iconst (v := 1) hx hb dX3_hang_85 (by decide) ?_
                        refine lv_iload_n hx hb dX3_hang_86 rfl (lv_at hl 0 rfl) ?_
                        refine lv_ishl hx hb dX3_hang_87 ?_
                        refine lv_topi (fun x9 ex9 => ?_)
                        have hPc := hP.sub (ws' := [(h0, .inr (3, [.int we, .ref a1, .ref a2, .ref a3, .ref a4, .int se])), (a1, .inl (g.2 0, 32, .inl (upd f1 (Int32.toNatClampNeg nd0) up))), (a2, .inl (g.2 0, 33, .inl v2)), (a3, .inl (g.2 0, 33, .inl v3)), (a4, .inl (g.2 0, 16, .inl f4))]) [0, 1, 2, 3, 4] rfl
                        have hDc := hD.sub (ws' := [(h0, .inr (3, [.int we, .ref a1, .ref a2, .ref a3, .ref a4, .int se])), (a1, .inl (g.2 0, 32, .inl (upd f1 (Int32.toNatClampNeg nd0) up))), (a2, .inl (g.2 0, 33, .inl v2)), (a3, .inl (g.2 0, 33, .inl v3)), (a4, .inl (g.2 0, 16, .inl f4))]) [0, 1, 2, 3, 4] (by decide) rfl
                        have hFc := va_free (wc := [(h0, .inr (3, [.int we, .ref a1, .ref a2, .ref a3, .ref a4, .int se])), (a1, .inl (g.2 0, 32, .inl (upd f1 (Int32.toNatClampNeg nd0) up))), (a2, .inl (g.2 0, 33, .inl v2)), (a3, .inl (g.2 0, 33, .inl v3)), (a4, .inl (g.2 0, 16, .inl f4))]) hD hS hA [0, 1, 2, 3, 4] rfl
                        refine va_callv (va_runV (As := [.int x8, .int 0, .int x9]) (rest := []) ⟨hx, hb, hml, hown, hg⟩ (c_X3_climb0 l g _ h0 a1 a2 a3 a4 (upd f1 (Int32.toNatClampNeg nd0) up) v2 v3 f4 we se x8 x9 ) (cwV 3 hg (z_gV mm_415 mm_417 mm_0 mm_115 mm_418) rfl rfl rfl (by decide +kernel) ⟨Nat.le_of_ble_eq_true rfl, Nat.le_of_ble_eq_true rfl⟩) ⟨(zA.pre [.ref h0, .int x8, .int 0, .int x9] hPc hK hDc hN).1, va_recv hK hPc (ci := 3) (q0 := 0) rfl rfl, (zA.pre [.ref h0, .int x8, .int 0, .int x9] hPc hK hDc hN).2⟩ rfl rfl hl.1 rfl (lv_room (Nat.le_of_ble_eq_true rfl)) dX3_hang_88 ⟨Nat.le_of_ble_eq_true rfl, Nat.le_of_ble_eq_true rfl⟩) hS (fun q _ h => hFc q h) hFc (fun _ t H1 locs ht hvm hr10 hB hz1 hk1 hS => ?_)
                        obtain ⟨z11, z12, hP1, hD1, f13⟩ := hB
                        have f13 : ∀ j, z11 j = v2 j := f13
                        rw [ht] at hP1
                        obtain ⟨hP, hD⟩ := va_join (wr := []) (w1 := [(h0, .inr (3, [.int we, .ref a1, .ref a2, .ref a3, .ref a4, .int se])), (a1, .inl (g.2 0, 32, .inl (upd f1 (Int32.toNatClampNeg nd0) up))), (a2, .inl (g.2 0, 33, .inl z11)), (a3, .inl (g.2 0, 33, .inl z12)), (a4, .inl (g.2 0, 16, .inl f4))]) hP hD [0, 1, 2, 3, 4] [] rfl rfl (by decide) (by decide) hk1 hFc hP1 hD1
                        generalize H1 = H at hP hS ⊢
                        refine W.widen (k := 0) (n := 0) (Nat.le_of_ble_eq_true rfl) (Nat.le_of_ble_eq_true rfl) ?_
                        have hP : zP g [(h0, .inr (3, [.int we, .ref a1, .ref a2, .ref a3, .ref a4, .int se])), (a1, .inl (g.2 0, 32, .inl (upd f1 (Int32.toNatClampNeg nd0) up))), (a2, .inl (g.2 0, 33, .inl z11)), (a3, .inl (g.2 0, 33, .inl z12)), (a4, .inl (g.2 0, 16, .inl f4))] H := hP
                        have hD : va_D A [(h0, .inr (3, [.int we, .ref a1, .ref a2, .ref a3, .ref a4, .int se])), (a1, .inl (g.2 0, 32, .inl (upd f1 (Int32.toNatClampNeg nd0) up))), (a2, .inl (g.2 0, 33, .inl z11)), (a3, .inl (g.2 0, 33, .inl z12)), (a4, .inl (g.2 0, 16, .inl f4))] := hD
                        refine lv_iinc (v := (nI (n3 + 1))) (lv' := [(3, .int (nI (n3 + 1))), (0, .ref h0), (1, .int nd0), (2, .int up)]) hx hb dX3_hang_91 hl (k := 0) rfl (nI_1 n3) (by decide) rfl (fun ls hl => ?_)
                        refine lv_goto (tgt := 69) hx hb dX3_hang_94 (by decide) ?_
                        exact ih (n3 + 1) z11 z12 _ _ ls (by omega) (by omega) (fun j => (f13 j).trans (hv6 j)) (hP.sub (ws' := [(h0, .inr (3, [.int we, .ref a1, .ref a2, .ref a3, .ref a4, .int se])), (a1, .inl (g.2 0, 32, .inl (upd f1 (Int32.toNatClampNeg nd0) up))), (a2, .inl (g.2 0, 33, .inl z11)), (a3, .inl (g.2 0, 33, .inl z12)), (a4, .inl (g.2 0, 16, .inl f4))]) [0, 1, 2, 3, 4] rfl) (hD.sub (ws' := [(h0, .inr (3, [.int we, .ref a1, .ref a2, .ref a3, .ref a4, .int se])), (a1, .inl (g.2 0, 32, .inl (upd f1 (Int32.toNatClampNeg nd0) up))), (a2, .inl (g.2 0, 33, .inl z11)), (a3, .inl (g.2 0, 33, .inl z12)), (a4, .inl (g.2 0, 16, .inl f4))]) [0, 1, 2, 3, 4] (by decide) rfl) hS (lv_sub hl [0, 1, 2, 3] rfl)
                  exact loop69 (16 - 0 + 1) 0 w2 w3 _ _ ls (by omega) (by omega) (fun j => rfl) hP hD hS (lv_sub hl [0, 1, 2, 3] rfl)
                · skip
                  have c6 : ¬ (16 ≤ ((k : Nat) : Int)) := fun q => c6 ((z_le (by decide : (16 : Int32).toInt = 16) (nI_toInt (by omega))).mpr q)
                  refine lv_aload_n hx hb dX3_hang_54 rfl (lv_at hl 1 rfl) ?_
                  refine lv_iload_n hx hb dX3_hang_55 rfl (lv_at hl 0 rfl) ?_
                  refine lv_iconst (v := 1) hx hb dX3_hang_56 (by decide) ?_
                  refine lv_iconst (v := 0) hx hb dX3_hang_57 (by decide) ?_
                  have hPc := hP.sub (ws' := [(h0, .inr (3, [.int we, .ref a1, .ref a2, .ref a3, .ref a4, .int se])), (a1, .inl (g.2 0, 32, .inl (upd f1 (Int32.toNatClampNeg nd0) up))), (a2, .inl (g.2 0, 33, .inl w2)), (a3, .inl (g.2 0, 33, .inl w3)), (a4, .inl (g.2 0, 16, .inl f4))]) [0, 1, 2, 3, 4] rfl
                  have hDc := hD.sub (ws' := [(h0, .inr (3, [.int we, .ref a1, .ref a2, .ref a3, .ref a4, .int se])), (a1, .inl (g.2 0, 32, .inl (upd f1 (Int32.toNatClampNeg nd0) up))), (a2, .inl (g.2 0, 33, .inl w2)), (a3, .inl (g.2 0, 33, .inl w3)), (a4, .inl (g.2 0, 16, .inl f4))]) [0, 1, 2, 3, 4] (by decide) rfl
                  have hFc := va_free (wc := [(h0, .inr (3, [.int we, .ref a1, .ref a2, .ref a3, .ref a4, .int se])), (a1, .inl (g.2 0, 32, .inl (upd f1 (Int32.toNatClampNeg nd0) up))), (a2, .inl (g.2 0, 33, .inl w2)), (a3, .inl (g.2 0, 33, .inl w3)), (a4, .inl (g.2 0, 16, .inl f4))]) hD hS hA [0, 1, 2, 3, 4] rfl
                  refine va_callv (va_runV (As := [.int (nI k), .int 1, .int 0]) (rest := []) ⟨hx, hb, hml, hown, hg⟩ (c_X3_climb1 l g _ h0 a1 a2 a3 a4 (upd f1 (Int32.toNatClampNeg nd0) up) w2 w3 f4 we se (nI k) (0 : Int32) (fun j hj => by rw [hv4 j hj]; have := zblN_bd (fT (upd f1 nd0.toNatClampNeg up)) j k; omega)) (cwV 3 hg (z_gV mm_415 mm_417 mm_0 mm_115 mm_418) rfl rfl rfl (by decide +kernel) ⟨Nat.le_of_ble_eq_true rfl, Nat.le_of_ble_eq_true rfl⟩) ⟨(zA.pre [.ref h0, .int (nI k), .int 1, .int 0] hPc hK hDc hN).1, va_recv hK hPc (ci := 3) (q0 := 0) rfl rfl, (zA.pre [.ref h0, .int (nI k), .int 1, .int 0] hPc hK hDc hN).2⟩ rfl rfl hl.1 rfl (lv_room (Nat.le_of_ble_eq_true rfl)) dX3_hang_58 ⟨Nat.le_of_ble_eq_true rfl, Nat.le_of_ble_eq_true rfl⟩) hS (fun q _ h => hFc q h) hFc (fun _ t H1 locs ht hvm hr14 hB hz1 hk1 hS => ?_)
                  obtain ⟨z15, z16, hP1, hD1, f17, f18⟩ := hB
                  have f17 : ∀ j, j < 32 → (z15 j).toInt = (w2 j).toInt + zvis (fT (upd f1 (Int32.toNatClampNeg nd0) up)) j 32 (nI k).toInt := f17
                  have f18 : z15 32 = w2 32 := f18
                  rw [ht] at hP1
                  obtain ⟨hP, hD⟩ := va_join (wr := []) (w1 := [(h0, .inr (3, [.int we, .ref a1, .ref a2, .ref a3, .ref a4, .int se])), (a1, .inl (g.2 0, 32, .inl (upd f1 (Int32.toNatClampNeg nd0) up))), (a2, .inl (g.2 0, 33, .inl z15)), (a3, .inl (g.2 0, 33, .inl z16)), (a4, .inl (g.2 0, 16, .inl f4))]) hP hD [0, 1, 2, 3, 4] [] rfl rfl (by decide) (by decide) hk1 hFc hP1 hD1
                  generalize H1 = H at hP hS ⊢
                  refine W.widen (k := 0) (n := 0) (Nat.le_of_ble_eq_true rfl) (Nat.le_of_ble_eq_true rfl) ?_
                  have hP : zP g [(h0, .inr (3, [.int we, .ref a1, .ref a2, .ref a3, .ref a4, .int se])), (a1, .inl (g.2 0, 32, .inl (upd f1 (Int32.toNatClampNeg nd0) up))), (a2, .inl (g.2 0, 33, .inl z15)), (a3, .inl (g.2 0, 33, .inl z16)), (a4, .inl (g.2 0, 16, .inl f4))] H := hP
                  have hD : va_D A [(h0, .inr (3, [.int we, .ref a1, .ref a2, .ref a3, .ref a4, .int se])), (a1, .inl (g.2 0, 32, .inl (upd f1 (Int32.toNatClampNeg nd0) up))), (a2, .inl (g.2 0, 33, .inl z15)), (a3, .inl (g.2 0, 33, .inl z16)), (a4, .inl (g.2 0, 16, .inl f4))] := hD
                  refine lv_iinc (v := (nI (k + 1))) (lv' := [(3, .int (nI (k + 1))), (0, .ref h0), (1, .int nd0), (2, .int up)]) hx hb dX3_hang_61 hl (k := 0) rfl (nI_1 k) (by decide) rfl (fun ls hl => ?_)
                  refine lv_goto (tgt := 48) hx hb dX3_hang_64 (by decide) ?_
                  exact ih (k + 1) z15 z16 _ _ ls (by omega) (by omega) (fun j hj => by rw [f17 j hj, hv4 j hj, zblN_lt hj, nI_toInt (by omega)]) (f18.trans hv5) (hP.sub (ws' := [(h0, .inr (3, [.int we, .ref a1, .ref a2, .ref a3, .ref a4, .int se])), (a1, .inl (g.2 0, 32, .inl (upd f1 (Int32.toNatClampNeg nd0) up))), (a2, .inl (g.2 0, 33, .inl z15)), (a3, .inl (g.2 0, 33, .inl z16)), (a4, .inl (g.2 0, 16, .inl f4))]) [0, 1, 2, 3, 4] rfl) (hD.sub (ws' := [(h0, .inr (3, [.int we, .ref a1, .ref a2, .ref a3, .ref a4, .int se])), (a1, .inl (g.2 0, 32, .inl (upd f1 (Int32.toNatClampNeg nd0) up))), (a2, .inl (g.2 0, 33, .inl z15)), (a3, .inl (g.2 0, 33, .inl z16)), (a4, .inl (g.2 0, 16, .inl f4))]) [0, 1, 2, 3, 4] (by decide) rfl) hS (lv_sub hl [0, 1, 2, 3] rfl)
            exact loop48 (16 - 0 + 1) 0 y2 y3 _ _ ls (by omega) (by omega) (fun j hj => by rw [hv1 j (by omega)]; rfl) (hv3) hP hD hS (lv_sub hl [0, 1, 2, 3] rfl)
          · skip
            have c5 : ¬ (32 ≤ ((i : Nat) : Int)) := fun q => c5 ((z_le (by decide : (32 : Int32).toInt = 32) (nI_toInt (by omega))).mpr q)
            refine lv_aload_n hx hb dX3_hang_26 rfl (lv_at hl 1 rfl) ?_
            refine va_get (D := g.1) (ci := 3) (v := .ref a2) (C := RX3) (T := TX3) (N := 6) hx hb hg inG3 hown hK hP 0 rfl rfl 2 (by decide) (hg _ mm_318) (fun _ h9 => h9) rfl dX3_hang_27 ?_
            refine lv_iload_n hx hb dX3_hang_30 rfl (lv_at hl 0 rfl) ?_
            refine lv_iconst (v := 0) hx hb dX3_hang_31 (by decide) ?_
            refine va_iast hx hb hK hP hD hS 2 0 rfl rfl (z_in (nI_toInt (by omega)) (by omega) (by omega)) dX3_hang_32 (fun H locs hP hD hS => ?_)
            rw [show ((nI i) : Int32).toNatClampNeg = i from (nI_clamp (by omega))] at hP hD
            have hP : zP g [(h0, .inr (3, [.int we, .ref a1, .ref a2, .ref a3, .ref a4, .int se])), (a1, .inl (g.2 0, 32, .inl (upd f1 (Int32.toNatClampNeg nd0) up))), (a2, .inl (g.2 0, 33, .inl (upd y2 i 0))), (a3, .inl (g.2 0, 33, .inl y3)), (a4, .inl (g.2 0, 16, .inl f4))] H := hP
            have hD : va_D A [(h0, .inr (3, [.int we, .ref a1, .ref a2, .ref a3, .ref a4, .int se])), (a1, .inl (g.2 0, 32, .inl (upd f1 (Int32.toNatClampNeg nd0) up))), (a2, .inl (g.2 0, 33, .inl (upd y2 i 0))), (a3, .inl (g.2 0, 33, .inl y3)), (a4, .inl (g.2 0, 16, .inl f4))] := hD
            refine lv_aload_n hx hb dX3_hang_33 rfl (lv_at hl 1 rfl) ?_
            refine va_get (D := g.1) (ci := 3) (v := .ref a3) (C := RX3) (T := TX3) (N := 6) hx hb hg inG3 hown hK hP 0 rfl rfl 3 (by decide) (hg _ mm_319) (fun _ h9 => h9) rfl dX3_hang_34 ?_
            refine lv_iload_n hx hb dX3_hang_37 rfl (lv_at hl 0 rfl) ?_
            refine lv_iconst (v := 0) hx hb dX3_hang_38 (by decide) ?_
            refine va_iast hx hb hK hP hD hS 3 0 rfl rfl (z_in (nI_toInt (by omega)) (by omega) (by omega)) dX3_hang_39 (fun H locs hP hD hS => ?_)
            rw [show ((nI i) : Int32).toNatClampNeg = i from (nI_clamp (by omega))] at hP hD
            have hP : zP g [(h0, .inr (3, [.int we, .ref a1, .ref a2, .ref a3, .ref a4, .int se])), (a1, .inl (g.2 0, 32, .inl (upd f1 (Int32.toNatClampNeg nd0) up))), (a2, .inl (g.2 0, 33, .inl (upd y2 i 0))), (a3, .inl (g.2 0, 33, .inl (upd y3 i 0))), (a4, .inl (g.2 0, 16, .inl f4))] H := hP
            have hD : va_D A [(h0, .inr (3, [.int we, .ref a1, .ref a2, .ref a3, .ref a4, .int se])), (a1, .inl (g.2 0, 32, .inl (upd f1 (Int32.toNatClampNeg nd0) up))), (a2, .inl (g.2 0, 33, .inl (upd y2 i 0))), (a3, .inl (g.2 0, 33, .inl (upd y3 i 0))), (a4, .inl (g.2 0, 16, .inl f4))] := hD
            refine lv_iinc (v := (nI (i + 1))) (lv' := [(3, .int (nI (i + 1))), (0, .ref h0), (1, .int nd0), (2, .int up)]) hx hb dX3_hang_40 hl (k := 0) rfl (nI_1 i) (by decide) rfl (fun ls hl => ?_)
            refine lv_goto (tgt := 20) hx hb dX3_hang_43 (by decide) ?_
            exact ih (i + 1) (upd y2 i 0) (upd y3 i 0) _ _ ls (by omega) (by omega) (fun j hj => if e : j = i then (by subst e; exact pk_us) else (by rw [pk_un e]; exact hv1 j (by omega))) ((pk_un (by omega)).trans hv3) (hP.sub (ws' := [(h0, .inr (3, [.int we, .ref a1, .ref a2, .ref a3, .ref a4, .int se])), (a1, .inl (g.2 0, 32, .inl (upd f1 (Int32.toNatClampNeg nd0) up))), (a2, .inl (g.2 0, 33, .inl (upd y2 i 0))), (a3, .inl (g.2 0, 33, .inl (upd y3 i 0))), (a4, .inl (g.2 0, 16, .inl f4))]) [0, 1, 2, 3, 4] rfl) (hD.sub (ws' := [(h0, .inr (3, [.int we, .ref a1, .ref a2, .ref a3, .ref a4, .int se])), (a1, .inl (g.2 0, 32, .inl (upd f1 (Int32.toNatClampNeg nd0) up))), (a2, .inl (g.2 0, 33, .inl (upd y2 i 0))), (a3, .inl (g.2 0, 33, .inl (upd y3 i 0))), (a4, .inl (g.2 0, 16, .inl f4))]) [0, 1, 2, 3, 4] (by decide) rfl) hS (lv_sub hl [0, 1, 2, 3] rfl)
      exact loop20 (32 - 0 + 1) 0 f2 f3 _ _ ls (by omega) (by omega) (fun j hj => absurd hj (Nat.not_lt_zero _)) (rfl) hP hD hS (lv_sub hl [0, 1, 2, 3] rfl)
    · skip
      exact absurd c4 (by decide)
  · skip
    obtain ⟨rfl, h19⟩ := hr1
    have h19 : ¬ ((0 : Int) ≤ nd0.toInt ∧ nd0.toInt ≤ (31 : Int)) := h19
    exfalso
    omega
