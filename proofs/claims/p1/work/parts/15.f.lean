set_option maxHeartbeats 4000000 in
set_option maxRecDepth 100000 in
theorem c_X0_forget (l : Launch) (g : zG) (sz : Nat) (h0 : Nat) (s1 : Value) (s2 : Value) (s3 : Value) (s4 : Value) (tm : Int32) : Met l yX0_forget (zW yX0_forget cX0_forget 1 none) ({ frames := 0, cells := 0, slots := 0, locals := 0 }) (va_Pc [.ref h0] (zA g [(h0, .inr (0, [s1, s2, s3, s4, .int tm]))] sz)) (va_Qv (fun (_ : Unit) => True) (fun _ t => ∃ (z1 : Int32), zP g [(h0, .inr (0, [s1, s2, s3, s4, .int z1]))] t.heap ∧ va_D (va_A [(h0, .inr (0, [s1, s2, s3, s4, .int tm]))] sz) [(h0, .inr (0, [s1, s2, s3, s4, .int z1]))]) (va_A [(h0, .inr (0, [s1, s2, s3, s4, .int tm]))] sz)) 0 0 (va_A [(h0, .inr (0, [s1, s2, s3, s4, .int tm]))] sz) := by
  refine Met.ofW (cc := cX0_forget) (maxL := 1) (ret := none) (by decide) rfl ?_
  intro p e s m args below meth c s₁ B hml hv
  obtain ⟨rfl, hsz, hP, hK, hD0, hN⟩ := hv
  have hx := B.exec
  have hb := B.bytes
  have hr := B.returns
  have hg := zW.law (atoms_spec (ws := (zW yX0_forget cX0_forget 1 none)) B.pre)
  have hown : s.vm.findClass RX0 = some m.cls := findClass_of_methodNamed B.named
  have hlocks := B.notSynchronized
  subst hsz
  have hD := hD0.self (sz := s.heap.size)
  generalize hAe : va_A [(h0, .inr (0, [s1, s2, s3, s4, .int tm]))] s.heap.size = A at hD ⊢
  have hA : ∀ q : Nat, s.heap.size ≤ q → A q := fun q h => by rw [← hAe]; exact Or.inr h
  have hS : va_S A s.heap s.heap [] := va_S.rf
  have hl := lv_entry ([.ref h0]) (n := 1) (Nat.le_of_ble_eq_true rfl)
  rw [lg_entry_eq]
  generalize (lg_sl ([.ref h0]) ++ List.replicate (1 - (lg_sl ([.ref h0])).length) Slot.unset).toArray = ls at hl ⊢
  have hl : lv_has ls 1 [(0, .ref h0)] := hl
  refine lv_aload_n hx hb dX0_forget_0 rfl (lv_at hl 0 rfl) ?_
  refine lv_dup hx hb dX0_forget_1 rfl ?_
  refine va_get (D := g.1) (ci := 0) (v := .int tm) (C := RX0) (T := TX0) (N := 5) hx hb hg inG0 hown hK hP 0 rfl rfl 4 (by decide) (hg _ mm_221) (fun _ h9 => h9) rfl dX0_forget_2 ?_
  refine lv_iconst (v := 1) hx hb dX0_forget_5 (by decide) ?_
  refine lv_iadd hx hb dX0_forget_6 ?_
  refine lv_topi (fun x1 ex1 => ?_)
  refine va_put (D := g.1) (ci := 0) (v := .int x1) (ty := .int) (C := RX0) (T := TX0) (N := 5) hx hb hg inG0 tyX0 tyX0_ok nmX0 hown hK hP hD hS 0 rfl rfl 4 (by decide) (hg _ mm_221) (fun _ h9 => h9) rfl (by decide +kernel) rfl rfl (Nat.le_of_ble_eq_true rfl) dX0_forget_7 (fun H locs hP hD hS => ?_)
  have hP : zP g [(h0, .inr (0, [s1, s2, s3, s4, .int x1]))] H := hP
  have hD : va_D A [(h0, .inr (0, [s1, s2, s3, s4, .int x1]))] := hD
  have hP9 := hP.sub (ws' := [(h0, .inr (0, [s1, s2, s3, s4, .int x1]))]) [0] rfl
  have hD9 := hD.sub (ws' := [(h0, .inr (0, [s1, s2, s3, s4, .int x1]))]) [0] (by decide) rfl
  refine W.widen (k := 0) (n := 0) (Nat.le_of_ble_eq_true rfl) (Nat.le_of_ble_eq_true rfl) ?_
  exact W.vret hx hb hr (fun t ht hW => ⟨⟨(), rfl, trivial, ⟨x1, by rw [ht]; exact hP9, hD9⟩⟩, hS.F ht⟩) hS.2.2 dX0_forget_10

set_option maxHeartbeats 4000000 in
set_option maxRecDepth 100000 in
theorem c_X8_upper (l : Launch) (g : zG) (sz : Nat) (h0 : Nat) (aC : Nat) (aW : Value) (aT : Value) (aB : Value) (aL : Value) (aG : Value) (aM : Value) (aA : Nat) (aU : Value) (aE : Value) (aD : Value) (c0_ : Nat) (c0_1 : Nat) (c0_2 : Nat) (c0_3 : Nat) (c0_4 : Nat) (f0_1 : Nat → Int32) (f0_2 : Nat → Int32) (f0_3 : Nat → Int32) (f0_4 : Nat → Int32) (we0 : Int32) (se0 : Int32) (c1_ : Nat) (c1_1 : Nat) (c1_2 : Nat) (c1_3 : Nat) (c1_4 : Nat) (f1_1 : Nat → Int32) (f1_2 : Nat → Int32) (f1_3 : Nat → Int32) (f1_4 : Nat → Int32) (we1 : Int32) (se1 : Int32) (c2_ : Nat) (c2_1 : Nat) (c2_2 : Nat) (c2_3 : Nat) (c2_4 : Nat) (f2_1 : Nat → Int32) (f2_2 : Nat → Int32) (f2_3 : Nat → Int32) (f2_4 : Nat → Int32) (we2 : Int32) (se2 : Int32) (c3_ : Nat) (c3_1 : Nat) (c3_2 : Nat) (c3_3 : Nat) (c3_4 : Nat) (f3_1 : Nat → Int32) (f3_2 : Nat → Int32) (f3_3 : Nat → Int32) (f3_4 : Nat → Int32) (we3 : Int32) (se3 : Int32) (s1 : Value) (s2 : Value) (s3 : Value) (s4 : Value) (tm : Int32) (c0 : Int32) (nd : Int32) (up : Int32) (hse0 : 0 ≤ se0.toInt ∧ se0.toInt ≤ 16) (hse1 : 0 ≤ se1.toInt ∧ se1.toInt ≤ 16) (hse2 : 0 ≤ se2.toInt ∧ se2.toInt ≤ 16) (hse3 : 0 ≤ se3.toInt ∧ se3.toInt ≤ 16) : Met l yX8_upper (zW yX8_upper cX8_upper 4 (some .boolean)) ({ frames := 3, cells := 0, slots := 0, locals := 70 }) (va_Pc [.ref h0, .int c0, .int nd, .int up] (zA g [(h0, .inr (8, [.ref aC, aW, aT, aB, aL, aG, aM, .ref aA, aU, aE, aD, .int 0, .int 0])), (aC, .inl (g.2 4, 4, .inr (.inr (.inr (.inr (zS [some c0_, some c1_, some c2_, some c3_])))))), (c0_, .inr (3, [.int we0, .ref c0_1, .ref c0_2, .ref c0_3, .ref c0_4, .int se0])), (c0_1, .inl (g.2 0, 32, .inl f0_1)), (c0_2, .inl (g.2 0, 33, .inl f0_2)), (c0_3, .inl (g.2 0, 33, .inl f0_3)), (c0_4, .inl (g.2 0, 16, .inl f0_4)), (c1_, .inr (3, [.int we1, .ref c1_1, .ref c1_2, .ref c1_3, .ref c1_4, .int se1])), (c1_1, .inl (g.2 0, 32, .inl f1_1)), (c1_2, .inl (g.2 0, 33, .inl f1_2)), (c1_3, .inl (g.2 0, 33, .inl f1_3)), (c1_4, .inl (g.2 0, 16, .inl f1_4)), (c2_, .inr (3, [.int we2, .ref c2_1, .ref c2_2, .ref c2_3, .ref c2_4, .int se2])), (c2_1, .inl (g.2 0, 32, .inl f2_1)), (c2_2, .inl (g.2 0, 33, .inl f2_2)), (c2_3, .inl (g.2 0, 33, .inl f2_3)), (c2_4, .inl (g.2 0, 16, .inl f2_4)), (c3_, .inr (3, [.int we3, .ref c3_1, .ref c3_2, .ref c3_3, .ref c3_4, .int se3])), (c3_1, .inl (g.2 0, 32, .inl f3_1)), (c3_2, .inl (g.2 0, 33, .inl f3_2)), (c3_3, .inl (g.2 0, 33, .inl f3_3)), (c3_4, .inl (g.2 0, 16, .inl f3_4)), (aA, .inr (0, [s1, s2, s3, s4, .int tm]))] sz)) (va_Qi (fun (r : Int32) (_ : Unit) => (r = 1 ∧ (0 ≤ c0.toInt ∧ c0.toInt ≤ 3 ∧ (0 ≤ nd.toInt ∧ nd.toInt ≤ 31) ∧ (up.toInt = -1 ∨ (16 ≤ up.toInt ∧ up.toInt ≤ 31) ∧ nd.toInt < up.toInt))) ∨ (r = 0 ∧ (¬ (0 ≤ c0.toInt ∧ c0.toInt ≤ 3 ∧ (0 ≤ nd.toInt ∧ nd.toInt ≤ 31) ∧ (up.toInt = -1 ∨ (16 ≤ up.toInt ∧ up.toInt ≤ 31) ∧ nd.toInt < up.toInt))))) (fun _ t => zP g [] t.heap ∧ va_D (va_A [(h0, .inr (8, [.ref aC, aW, aT, aB, aL, aG, aM, .ref aA, aU, aE, aD, .int 0, .int 0])), (aC, .inl (g.2 4, 4, .inr (.inr (.inr (.inr (zS [some c0_, some c1_, some c2_, some c3_])))))), (c0_, .inr (3, [.int we0, .ref c0_1, .ref c0_2, .ref c0_3, .ref c0_4, .int se0])), (c0_1, .inl (g.2 0, 32, .inl f0_1)), (c0_2, .inl (g.2 0, 33, .inl f0_2)), (c0_3, .inl (g.2 0, 33, .inl f0_3)), (c0_4, .inl (g.2 0, 16, .inl f0_4)), (c1_, .inr (3, [.int we1, .ref c1_1, .ref c1_2, .ref c1_3, .ref c1_4, .int se1])), (c1_1, .inl (g.2 0, 32, .inl f1_1)), (c1_2, .inl (g.2 0, 33, .inl f1_2)), (c1_3, .inl (g.2 0, 33, .inl f1_3)), (c1_4, .inl (g.2 0, 16, .inl f1_4)), (c2_, .inr (3, [.int we2, .ref c2_1, .ref c2_2, .ref c2_3, .ref c2_4, .int se2])), (c2_1, .inl (g.2 0, 32, .inl f2_1)), (c2_2, .inl (g.2 0, 33, .inl f2_2)), (c2_3, .inl (g.2 0, 33, .inl f2_3)), (c2_4, .inl (g.2 0, 16, .inl f2_4)), (c3_, .inr (3, [.int we3, .ref c3_1, .ref c3_2, .ref c3_3, .ref c3_4, .int se3])), (c3_1, .inl (g.2 0, 32, .inl f3_1)), (c3_2, .inl (g.2 0, 33, .inl f3_2)), (c3_3, .inl (g.2 0, 33, .inl f3_3)), (c3_4, .inl (g.2 0, 16, .inl f3_4)), (aA, .inr (0, [s1, s2, s3, s4, .int tm]))] sz) []) (va_A [(h0, .inr (8, [.ref aC, aW, aT, aB, aL, aG, aM, .ref aA, aU, aE, aD, .int 0, .int 0])), (aC, .inl (g.2 4, 4, .inr (.inr (.inr (.inr (zS [some c0_, some c1_, some c2_, some c3_])))))), (c0_, .inr (3, [.int we0, .ref c0_1, .ref c0_2, .ref c0_3, .ref c0_4, .int se0])), (c0_1, .inl (g.2 0, 32, .inl f0_1)), (c0_2, .inl (g.2 0, 33, .inl f0_2)), (c0_3, .inl (g.2 0, 33, .inl f0_3)), (c0_4, .inl (g.2 0, 16, .inl f0_4)), (c1_, .inr (3, [.int we1, .ref c1_1, .ref c1_2, .ref c1_3, .ref c1_4, .int se1])), (c1_1, .inl (g.2 0, 32, .inl f1_1)), (c1_2, .inl (g.2 0, 33, .inl f1_2)), (c1_3, .inl (g.2 0, 33, .inl f1_3)), (c1_4, .inl (g.2 0, 16, .inl f1_4)), (c2_, .inr (3, [.int we2, .ref c2_1, .ref c2_2, .ref c2_3, .ref c2_4, .int se2])), (c2_1, .inl (g.2 0, 32, .inl f2_1)), (c2_2, .inl (g.2 0, 33, .inl f2_2)), (c2_3, .inl (g.2 0, 33, .inl f2_3)), (c2_4, .inl (g.2 0, 16, .inl f2_4)), (c3_, .inr (3, [.int we3, .ref c3_1, .ref c3_2, .ref c3_3, .ref c3_4, .int se3])), (c3_1, .inl (g.2 0, 32, .inl f3_1)), (c3_2, .inl (g.2 0, 33, .inl f3_2)), (c3_3, .inl (g.2 0, 33, .inl f3_3)), (c3_4, .inl (g.2 0, 16, .inl f3_4)), (aA, .inr (0, [s1, s2, s3, s4, .int tm]))] sz)) 0 0 (va_A [(h0, .inr (8, [.ref aC, aW, aT, aB, aL, aG, aM, .ref aA, aU, aE, aD, .int 0, .int 0])), (aC, .inl (g.2 4, 4, .inr (.inr (.inr (.inr (zS [some c0_, some c1_, some c2_, some c3_])))))), (c0_, .inr (3, [.int we0, .ref c0_1, .ref c0_2, .ref c0_3, .ref c0_4, .int se0])), (c0_1, .inl (g.2 0, 32, .inl f0_1)), (c0_2, .inl (g.2 0, 33, .inl f0_2)), (c0_3, .inl (g.2 0, 33, .inl f0_3)), (c0_4, .inl (g.2 0, 16, .inl f0_4)), (c1_, .inr (3, [.int we1, .ref c1_1, .ref c1_2, .ref c1_3, .ref c1_4, .int se1])), (c1_1, .inl (g.2 0, 32, .inl f1_1)), (c1_2, .inl (g.2 0, 33, .inl f1_2)), (c1_3, .inl (g.2 0, 33, .inl f1_3)), (c1_4, .inl (g.2 0, 16, .inl f1_4)), (c2_, .inr (3, [.int we2, .ref c2_1, .ref c2_2, .ref c2_3, .ref c2_4, .int se2])), (c2_1, .inl (g.2 0, 32, .inl f2_1)), (c2_2, .inl (g.2 0, 33, .inl f2_2)), (c2_3, .inl (g.2 0, 33, .inl f2_3)), (c2_4, .inl (g.2 0, 16, .inl f2_4)), (c3_, .inr (3, [.int we3, .ref c3_1, .ref c3_2, .ref c3_3, .ref c3_4, .int se3])), (c3_1, .inl (g.2 0, 32, .inl f3_1)), (c3_2, .inl (g.2 0, 33, .inl f3_2)), (c3_3, .inl (g.2 0, 33, .inl f3_3)), (c3_4, .inl (g.2 0, 16, .inl f3_4)), (aA, .inr (0, [s1, s2, s3, s4, .int tm]))] sz) := by
  refine Met.ofW (cc := cX8_upper) (maxL := 4) (ret := (some .boolean)) (by decide) rfl ?_
  intro p e s m args below meth c s₁ B hml hv
  obtain ⟨rfl, hsz, hP, hK, hD0, hN⟩ := hv
  have hx := B.exec
  have hb := B.bytes
  have hr := B.returns
  have hg := zW.law (atoms_spec (ws := (zW yX8_upper cX8_upper 4 (some .boolean))) B.pre)
  have hown : s.vm.findClass RX8 = some m.cls := findClass_of_methodNamed B.named
  have hlocks := B.notSynchronized
  subst hsz
  have hD := hD0.self (sz := s.heap.size)
  generalize hAe : va_A [(h0, .inr (8, [.ref aC, aW, aT, aB, aL, aG, aM, .ref aA, aU, aE, aD, .int 0, .int 0])), (aC, .inl (g.2 4, 4, .inr (.inr (.inr (.inr (zS [some c0_, some c1_, some c2_, some c3_])))))), (c0_, .inr (3, [.int we0, .ref c0_1, .ref c0_2, .ref c0_3, .ref c0_4, .int se0])), (c0_1, .inl (g.2 0, 32, .inl f0_1)), (c0_2, .inl (g.2 0, 33, .inl f0_2)), (c0_3, .inl (g.2 0, 33, .inl f0_3)), (c0_4, .inl (g.2 0, 16, .inl f0_4)), (c1_, .inr (3, [.int we1, .ref c1_1, .ref c1_2, .ref c1_3, .ref c1_4, .int se1])), (c1_1, .inl (g.2 0, 32, .inl f1_1)), (c1_2, .inl (g.2 0, 33, .inl f1_2)), (c1_3, .inl (g.2 0, 33, .inl f1_3)), (c1_4, .inl (g.2 0, 16, .inl f1_4)), (c2_, .inr (3, [.int we2, .ref c2_1, .ref c2_2, .ref c2_3, .ref c2_4, .int se2])), (c2_1, .inl (g.2 0, 32, .inl f2_1)), (c2_2, .inl (g.2 0, 33, .inl f2_2)), (c2_3, .inl (g.2 0, 33, .inl f2_3)), (c2_4, .inl (g.2 0, 16, .inl f2_4)), (c3_, .inr (3, [.int we3, .ref c3_1, .ref c3_2, .ref c3_3, .ref c3_4, .int se3])), (c3_1, .inl (g.2 0, 32, .inl f3_1)), (c3_2, .inl (g.2 0, 33, .inl f3_2)), (c3_3, .inl (g.2 0, 33, .inl f3_3)), (c3_4, .inl (g.2 0, 16, .inl f3_4)), (aA, .inr (0, [s1, s2, s3, s4, .int tm]))] s.heap.size = A at hD ⊢
  have hA : ∀ q : Nat, s.heap.size ≤ q → A q := fun q h => by rw [← hAe]; exact Or.inr h
  have hS : va_S A s.heap s.heap [] := va_S.rf
  have hl := lv_entry ([.ref h0, .int c0, .int nd, .int up]) (n := 4) (Nat.le_of_ble_eq_true rfl)
  rw [lg_entry_eq]
  generalize (lg_sl ([.ref h0, .int c0, .int nd, .int up]) ++ List.replicate (4 - (lg_sl ([.ref h0, .int c0, .int nd, .int up])).length) Slot.unset).toArray = ls at hl ⊢
  have hl : lv_has ls 4 [(0, .ref h0), (1, .int c0), (2, .int nd), (3, .int up)] := hl
  refine lv_iload_n hx hb dX8_upper_0 rfl (lv_at hl 1 rfl) ?_
  have hPc := hP.sub (ws' := []) [] rfl
  refine zc_i (va_runS (As := [.int c0]) (rest := []) ⟨hx, hb, hml, hown, hg⟩ (c_X8_isColumn l g c0 ) (va_cwS 1 hg (z_gS mm_404 mm_405 mm_108 mm_406) rfl rfl rfl (by decide +kernel) ⟨Nat.le_of_ble_eq_true rfl, Nat.le_of_ble_eq_true rfl⟩) (zR.pre [.int c0] hPc hK hN) rfl rfl hl.1 rfl (lv_room (Nat.le_of_ble_eq_true rfl)) dX8_upper_1 ⟨Nat.le_of_ble_eq_true rfl, Nat.le_of_ble_eq_true rfl⟩) (fun r1 hr1 => ?_)
  rcases hr1 with hr1 | hr1
  · skip
    obtain ⟨rfl, h2, h3⟩ := hr1
    have h2 : 0 ≤ c0.toInt := h2
    have h3 : c0.toInt ≤ 3 := h3
    refine lv_if_eq (tgt := 17) hx hb dX8_upper_4 (by decide) (fun c4 => ?_) (fun c4 => ?_)
    · skip
      exact absurd c4 (by decide)
    · skip
      refine lv_iload_n hx hb dX8_upper_7 rfl (lv_at hl 2 rfl) ?_
      refine lv_iconst (v := 0) hx hb dX8_upper_8 (by decide) ?_
      refine lv_bipush (v := 31) hx hb dX8_upper_9 (by decide) ?_
      have hPc := hP.sub (ws' := []) [] rfl
      refine zc_i (va_runS (As := [.int nd, .int 0, .int 31]) (rest := []) ⟨hx, hb, hml, hown, hg⟩ (c_X8_within l g nd (0 : Int32) (31 : Int32) ) (va_cwS 3 hg (z_gS mm_407 mm_408 mm_108 mm_409) rfl rfl rfl (by decide +kernel) ⟨Nat.le_of_ble_eq_true rfl, Nat.le_of_ble_eq_true rfl⟩) (zR.pre [.int nd, .int 0, .int 31] hPc hK hN) rfl rfl hl.1 rfl (lv_room (Nat.le_of_ble_eq_true rfl)) dX8_upper_11 ⟨Nat.le_of_ble_eq_true rfl, Nat.le_of_ble_eq_true rfl⟩) (fun r5 hr5 => ?_)
      rcases hr5 with hr5 | hr5
      · skip
        obtain ⟨rfl, h6, h7⟩ := hr5
        have h6 : (0 : Int) ≤ nd.toInt := h6
        have h7 : nd.toInt ≤ (31 : Int) := h7
        refine lv_if_ne (tgt := 19) hx hb dX8_upper_14 (by decide) (fun c8 => ?_) (fun c8 => ?_)
        · skip
          refine lv_iload_n hx hb dX8_upper_19 rfl (lv_at hl 3 rfl) ?_
          refine lv_iconst (v := (-1)) hx hb dX8_upper_20 (by decide) ?_
          refine lv_icmp_eq (tgt := 42) hx hb dX8_upper_21 (by decide) (fun c9 => ?_) (fun c9 => ?_)
          · skip
            have c9 : up.toInt = (-1) := (z_eq rfl (by decide : ((-1) : Int32).toInt = (-1))).mp c9
            refine lv_aload_n hx hb dX8_upper_42 rfl (lv_at hl 0 rfl) ?_
            refine va_get (D := g.1) (ci := 8) (v := .ref aC) (C := RX8) (T := TX8) (N := 13) hx hb hg inG8 hown hK hP 0 rfl rfl 0 (by decide) (hg _ mm_360) (fun _ h9 => h9) rfl dX8_upper_43 ?_
            refine lv_iload_n hx hb dX8_upper_46 rfl (lv_at hl 1 rfl) ?_
            rcases z_c4 c0 (by omega) (by omega) with hs10 | hs10 | hs10 | hs10
            · skip
              have ehs10 : c0.toInt = 0 := by rw [hs10]; rfl
              have qhs10 : (0 : Int32).toInt = 0 := rfl
              subst hs10
              refine va_aldq hx hb hK hP 1 4 rfl rfl (z_in (by decide : (0 : Int32).toInt = 0) (by omega) (by omega)) dX8_upper_47 ?_
              refine W.eq (g2 := F0 m 48 ls [.ref c0_]) rfl ?_
              refine lv_iload_n hx hb dX8_upper_48 rfl (lv_at hl 2 rfl) ?_
              refine lv_iload_n hx hb dX8_upper_49 rfl (lv_at hl 3 rfl) ?_
              have hPc := hP.sub (ws' := [(c0_, .inr (3, [.int we0, .ref c0_1, .ref c0_2, .ref c0_3, .ref c0_4, .int se0])), (c0_1, .inl (g.2 0, 32, .inl f0_1)), (c0_2, .inl (g.2 0, 33, .inl f0_2)), (c0_3, .inl (g.2 0, 33, .inl f0_3)), (c0_4, .inl (g.2 0, 16, .inl f0_4))]) [2, 3, 4, 5, 6] rfl
              have hDc := hD.sub (ws' := [(c0_, .inr (3, [.int we0, .ref c0_1, .ref c0_2, .ref c0_3, .ref c0_4, .int se0])), (c0_1, .inl (g.2 0, 32, .inl f0_1)), (c0_2, .inl (g.2 0, 33, .inl f0_2)), (c0_3, .inl (g.2 0, 33, .inl f0_3)), (c0_4, .inl (g.2 0, 16, .inl f0_4))]) [2, 3, 4, 5, 6] (by decide) rfl
              have hFc := va_free (wc := [(c0_, .inr (3, [.int we0, .ref c0_1, .ref c0_2, .ref c0_3, .ref c0_4, .int se0])), (c0_1, .inl (g.2 0, 32, .inl f0_1)), (c0_2, .inl (g.2 0, 33, .inl f0_2)), (c0_3, .inl (g.2 0, 33, .inl f0_3)), (c0_4, .inl (g.2 0, 16, .inl f0_4))]) hD hS hA [2, 3, 4, 5, 6] rfl
              refine va_callv (va_runV (As := [.int nd, .int up]) (rest := []) ⟨hx, hb, hml, hown, hg⟩ (c_X3_hang l g _ c0_ c0_1 c0_2 c0_3 c0_4 f0_1 f0_2 f0_3 f0_4 we0 se0 nd up (by first | omega | assumption | decide)) (cwV 2 hg (z_gV mm_410 mm_411 mm_412 mm_115 mm_413) rfl rfl rfl (by decide +kernel) ⟨Nat.le_of_ble_eq_true rfl, Nat.le_of_ble_eq_true rfl⟩) ⟨(zA.pre [.ref c0_, .int nd, .int up] hPc hK hDc hN).1, va_recv hK hPc (ci := 3) (q0 := 0) rfl rfl, (zA.pre [.ref c0_, .int nd, .int up] hPc hK hDc hN).2⟩ rfl rfl hl.1 rfl (lv_room (Nat.le_of_ble_eq_true rfl)) dX8_upper_50 ⟨Nat.le_of_ble_eq_true rfl, Nat.le_of_ble_eq_true rfl⟩) hS (fun q _ h => hFc q h) hFc (fun _ t H1 locs ht hvm hr11 hB hz1 hk1 hS => ?_)
              obtain ⟨z12, z13, z14, hP1, hD1⟩ := hB
              rw [ht] at hP1
              obtain ⟨hP, hD⟩ := va_join (wr := [(h0, .inr (8, [.ref aC, aW, aT, aB, aL, aG, aM, .ref aA, aU, aE, aD, .int 0, .int 0])), (aC, .inl (g.2 4, 4, .inr (.inr (.inr (.inr (zS [some c0_, some c1_, some c2_, some c3_])))))), (c1_, .inr (3, [.int we1, .ref c1_1, .ref c1_2, .ref c1_3, .ref c1_4, .int se1])), (c1_1, .inl (g.2 0, 32, .inl f1_1)), (c1_2, .inl (g.2 0, 33, .inl f1_2)), (c1_3, .inl (g.2 0, 33, .inl f1_3)), (c1_4, .inl (g.2 0, 16, .inl f1_4)), (c2_, .inr (3, [.int we2, .ref c2_1, .ref c2_2, .ref c2_3, .ref c2_4, .int se2])), (c2_1, .inl (g.2 0, 32, .inl f2_1)), (c2_2, .inl (g.2 0, 33, .inl f2_2)), (c2_3, .inl (g.2 0, 33, .inl f2_3)), (c2_4, .inl (g.2 0, 16, .inl f2_4)), (c3_, .inr (3, [.int we3, .ref c3_1, .ref c3_2, .ref c3_3, .ref c3_4, .int se3])), (c3_1, .inl (g.2 0, 32, .inl f3_1)), (c3_2, .inl (g.2 0, 33, .inl f3_2)), (c3_3, .inl (g.2 0, 33, .inl f3_3)), (c3_4, .inl (g.2 0, 16, .inl f3_4)), (aA, .inr (0, [s1, s2, s3, s4, .int tm]))]) (w1 := [(c0_, .inr (3, [.int we0, .ref c0_1, .ref c0_2, .ref c0_3, .ref c0_4, .int se0])), (c0_1, .inl (g.2 0, 32, .inl z12)), (c0_2, .inl (g.2 0, 33, .inl z13)), (c0_3, .inl (g.2 0, 33, .inl z14)), (c0_4, .inl (g.2 0, 16, .inl f0_4))]) hP hD [2, 3, 4, 5, 6] [0, 1, 7, 8, 9, 10, 11, 12, 13, 14, 15, 16, 17, 18, 19, 20, 21, 22] rfl rfl (by decide) (by decide) hk1 hFc hP1 hD1
              generalize H1 = H at hP hS ⊢
              refine W.widen (k := 0) (n := 0) (Nat.le_of_ble_eq_true rfl) (Nat.le_of_ble_eq_true rfl) ?_
              have hP : zP g [(h0, .inr (8, [.ref aC, aW, aT, aB, aL, aG, aM, .ref aA, aU, aE, aD, .int 0, .int 0])), (aC, .inl (g.2 4, 4, .inr (.inr (.inr (.inr (zS [some c0_, some c1_, some c2_, some c3_])))))), (c1_, .inr (3, [.int we1, .ref c1_1, .ref c1_2, .ref c1_3, .ref c1_4, .int se1])), (c1_1, .inl (g.2 0, 32, .inl f1_1)), (c1_2, .inl (g.2 0, 33, .inl f1_2)), (c1_3, .inl (g.2 0, 33, .inl f1_3)), (c1_4, .inl (g.2 0, 16, .inl f1_4)), (c2_, .inr (3, [.int we2, .ref c2_1, .ref c2_2, .ref c2_3, .ref c2_4, .int se2])), (c2_1, .inl (g.2 0, 32, .inl f2_1)), (c2_2, .inl (g.2 0, 33, .inl f2_2)), (c2_3, .inl (g.2 0, 33, .inl f2_3)), (c2_4, .inl (g.2 0, 16, .inl f2_4)), (c3_, .inr (3, [.int we3, .ref c3_1, .ref c3_2, .ref c3_3, .ref c3_4, .int se3])), (c3_1, .inl (g.2 0, 32, .inl f3_1)), (c3_2, .inl (g.2 0, 33, .inl f3_2)), (c3_3, .inl (g.2 0, 33, .inl f3_3)), (c3_4, .inl (g.2 0, 16, .inl f3_4)), (aA, .inr (0, [s1, s2, s3, s4, .int tm])), (c0_, .inr (3, [.int we0, .ref c0_1, .ref c0_2, .ref c0_3, .ref c0_4, .int se0])), (c0_1, .inl (g.2 0, 32, .inl z12)), (c0_2, .inl (g.2 0, 33, .inl z13)), (c0_3, .inl (g.2 0, 33, .inl z14)), (c0_4, .inl (g.2 0, 16, .inl f0_4))] H := hP
              have hD : va_D A [(h0, .inr (8, [.ref aC, aW, aT, aB, aL, aG, aM, .ref aA, aU, aE, aD, .int 0, .int 0])), (aC, .inl (g.2 4, 4, .inr (.inr (.inr (.inr (zS [some c0_, some c1_, some c2_, some c3_])))))), (c1_, .inr (3, [.int we1, .ref c1_1, .ref c1_2, .ref c1_3, .ref c1_4, .int se1])), (c1_1, .inl (g.2 0, 32, .inl f1_1)), (c1_2, .inl (g.2 0, 33, .inl f1_2)), (c1_3, .inl (g.2 0, 33, .inl f1_3)), (c1_4, .inl (g.2 0, 16, .inl f1_4)), (c2_, .inr (3, [.int we2, .ref c2_1, .ref c2_2, .ref c2_3, .ref c2_4, .int se2])), (c2_1, .inl (g.2 0, 32, .inl f2_1)), (c2_2, .inl (g.2 0, 33, .inl f2_2)), (c2_3, .inl (g.2 0, 33, .inl f2_3)), (c2_4, .inl (g.2 0, 16, .inl f2_4)), (c3_, .inr (3, [.int we3, .ref c3_1, .ref c3_2, .ref c3_3, .ref c3_4, .int se3])), (c3_1, .inl (g.2 0, 32, .inl f3_1)), (c3_2, .inl (g.2 0, 33, .inl f3_2)), (c3_3, .inl (g.2 0, 33, .inl f3_3)), (c3_4, .inl (g.2 0, 16, .inl f3_4)), (aA, .inr (0, [s1, s2, s3, s4, .int tm])), (c0_, .inr (3, [.int we0, .ref c0_1, .ref c0_2, .ref c0_3, .ref c0_4, .int se0])), (c0_1, .inl (g.2 0, 32, .inl z12)), (c0_2, .inl (g.2 0, 33, .inl z13)), (c0_3, .inl (g.2 0, 33, .inl z14)), (c0_4, .inl (g.2 0, 16, .inl f0_4))] := hD
              refine lv_aload_n hx hb dX8_upper_53 rfl (lv_at hl 0 rfl) ?_
              refine va_get (D := g.1) (ci := 8) (v := .ref aA) (C := RX8) (T := TX8) (N := 13) hx hb hg inG8 hown hK hP 0 rfl rfl 7 (by decide) (hg _ mm_367) (fun _ h9 => h9) rfl dX8_upper_54 ?_
              have hPc := hP.sub (ws' := [(aA, .inr (0, [s1, s2, s3, s4, .int tm]))]) [17] rfl
              have hDc := hD.sub (ws' := [(aA, .inr (0, [s1, s2, s3, s4, .int tm]))]) [17] (by decide) rfl
              have hFc := va_free (wc := [(aA, .inr (0, [s1, s2, s3, s4, .int tm]))]) hD hS hA [17] rfl
              refine va_callv (va_runV (As := []) (rest := []) ⟨hx, hb, hml, hown, hg⟩ (c_X0_forget l g _ aA (s1 : Value) (s2 : Value) (s3 : Value) (s4 : Value) tm ) (cwV 0 hg (z_gV mm_419 mm_420 mm_421 mm_112 mm_422) rfl rfl rfl (by decide +kernel) ⟨Nat.le_of_ble_eq_true rfl, Nat.le_of_ble_eq_true rfl⟩) ⟨(zA.pre [.ref aA] hPc hK hDc hN).1, va_recv hK hPc (ci := 0) (q0 := 0) rfl rfl, (zA.pre [.ref aA] hPc hK hDc hN).2⟩ rfl rfl hl.1 rfl (lv_room (Nat.le_of_ble_eq_true rfl)) dX8_upper_57 ⟨Nat.le_of_ble_eq_true rfl, Nat.le_of_ble_eq_true rfl⟩) hS (fun q _ h => hFc q h) hFc (fun _ t H1 locs ht hvm hr15 hB hz1 hk1 hS => ?_)
              obtain ⟨z16, hP1, hD1⟩ := hB
              rw [ht] at hP1
              obtain ⟨hP, hD⟩ := va_join (wr := [(h0, .inr (8, [.ref aC, aW, aT, aB, aL, aG, aM, .ref aA, aU, aE, aD, .int 0, .int 0])), (aC, .inl (g.2 4, 4, .inr (.inr (.inr (.inr (zS [some c0_, some c1_, some c2_, some c3_])))))), (c1_, .inr (3, [.int we1, .ref c1_1, .ref c1_2, .ref c1_3, .ref c1_4, .int se1])), (c1_1, .inl (g.2 0, 32, .inl f1_1)), (c1_2, .inl (g.2 0, 33, .inl f1_2)), (c1_3, .inl (g.2 0, 33, .inl f1_3)), (c1_4, .inl (g.2 0, 16, .inl f1_4)), (c2_, .inr (3, [.int we2, .ref c2_1, .ref c2_2, .ref c2_3, .ref c2_4, .int se2])), (c2_1, .inl (g.2 0, 32, .inl f2_1)), (c2_2, .inl (g.2 0, 33, .inl f2_2)), (c2_3, .inl (g.2 0, 33, .inl f2_3)), (c2_4, .inl (g.2 0, 16, .inl f2_4)), (c3_, .inr (3, [.int we3, .ref c3_1, .ref c3_2, .ref c3_3, .ref c3_4, .int se3])), (c3_1, .inl (g.2 0, 32, .inl f3_1)), (c3_2, .inl (g.2 0, 33, .inl f3_2)), (c3_3, .inl (g.2 0, 33, .inl f3_3)), (c3_4, .inl (g.2 0, 16, .inl f3_4)), (c0_, .inr (3, [.int we0, .ref c0_1, .ref c0_2, .ref c0_3, .ref c0_4, .int se0])), (c0_1, .inl (g.2 0, 32, .inl z12)), (c0_2, .inl (g.2 0, 33, .inl z13)), (c0_3, .inl (g.2 0, 33, .inl z14)), (c0_4, .inl (g.2 0, 16, .inl f0_4))]) (w1 := [(aA, .inr (0, [(s1 : Value), (s2 : Value), (s3 : Value), (s4 : Value), .int z16]))]) hP hD [17] [0, 1, 2, 3, 4, 5, 6, 7, 8, 9, 10, 11, 12, 13, 14, 15, 16, 18, 19, 20, 21, 22] rfl rfl (by decide) (by decide) hk1 hFc hP1 hD1
              generalize H1 = H at hP hS ⊢
              refine W.widen (k := 0) (n := 0) (Nat.le_of_ble_eq_true rfl) (Nat.le_of_ble_eq_true rfl) ?_
              have hP : zP g [(h0, .inr (8, [.ref aC, aW, aT, aB, aL, aG, aM, .ref aA, aU, aE, aD, .int 0, .int 0])), (aC, .inl (g.2 4, 4, .inr (.inr (.inr (.inr (zS [some c0_, some c1_, some c2_, some c3_])))))), (c1_, .inr (3, [.int we1, .ref c1_1, .ref c1_2, .ref c1_3, .ref c1_4, .int se1])), (c1_1, .inl (g.2 0, 32, .inl f1_1)), (c1_2, .inl (g.2 0, 33, .inl f1_2)), (c1_3, .inl (g.2 0, 33, .inl f1_3)), (c1_4, .inl (g.2 0, 16, .inl f1_4)), (c2_, .inr (3, [.int we2, .ref c2_1, .ref c2_2, .ref c2_3, .ref c2_4, .int se2])), (c2_1, .inl (g.2 0, 32, .inl f2_1)), (c2_2, .inl (g.2 0, 33, .inl f2_2)), (c2_3, .inl (g.2 0, 33, .inl f2_3)), (c2_4, .inl (g.2 0, 16, .inl f2_4)), (c3_, .inr (3, [.int we3, .ref c3_1, .ref c3_2, .ref c3_3, .ref c3_4, .int se3])), (c3_1, .inl (g.2 0, 32, .inl f3_1)), (c3_2, .inl (g.2 0, 33, .inl f3_2)), (c3_3, .inl (g.2 0, 33, .inl f3_3)), (c3_4, .inl (g.2 0, 16, .inl f3_4)), (c0_, .inr (3, [.int we0, .ref c0_1, .ref c0_2, .ref c0_3, .ref c0_4, .int se0])), (c0_1, .inl (g.2 0, 32, .inl z12)), (c0_2, .inl (g.2 0, 33, .inl z13)), (c0_3, .inl (g.2 0, 33, .inl z14)), (c0_4, .inl (g.2 0, 16, .inl f0_4)), (aA, .inr (0, [(s1 : Value), (s2 : Value), (s3 : Value), (s4 : Value), .int z16]))] H := hP
              have hD : va_D A [(h0, .inr (8, [.ref aC, aW, aT, aB, aL, aG, aM, .ref aA, aU, aE, aD, .int 0, .int 0])), (aC, .inl (g.2 4, 4, .inr (.inr (.inr (.inr (zS [some c0_, some c1_, some c2_, some c3_])))))), (c1_, .inr (3, [.int we1, .ref c1_1, .ref c1_2, .ref c1_3, .ref c1_4, .int se1])), (c1_1, .inl (g.2 0, 32, .inl f1_1)), (c1_2, .inl (g.2 0, 33, .inl f1_2)), (c1_3, .inl (g.2 0, 33, .inl f1_3)), (c1_4, .inl (g.2 0, 16, .inl f1_4)), (c2_, .inr (3, [.int we2, .ref c2_1, .ref c2_2, .ref c2_3, .ref c2_4, .int se2])), (c2_1, .inl (g.2 0, 32, .inl f2_1)), (c2_2, .inl (g.2 0, 33, .inl f2_2)), (c2_3, .inl (g.2 0, 33, .inl f2_3)), (c2_4, .inl (g.2 0, 16, .inl f2_4)), (c3_, .inr (3, [.int we3, .ref c3_1, .ref c3_2, .ref c3_3, .ref c3_4, .int se3])), (c3_1, .inl (g.2 0, 32, .inl f3_1)), (c3_2, .inl (g.2 0, 33, .inl f3_2)), (c3_3, .inl (g.2 0, 33, .inl f3_3)), (c3_4, .inl (g.2 0, 16, .inl f3_4)), (c0_, .inr (3, [.int we0, .ref c0_1, .ref c0_2, .ref c0_3, .ref c0_4, .int se0])), (c0_1, .inl (g.2 0, 32, .inl z12)), (c0_2, .inl (g.2 0, 33, .inl z13)), (c0_3, .inl (g.2 0, 33, .inl z14)), (c0_4, .inl (g.2 0, 16, .inl f0_4)), (aA, .inr (0, [(s1 : Value), (s2 : Value), (s3 : Value), (s4 : Value), .int z16]))] := hD
              refine lv_iconst (v := 1) hx hb dX8_upper_60 (by decide) ?_
              have hP9 := hP.sub (ws' := []) [] rfl
              have hD9 := hD.sub (ws' := []) [] (by decide) rfl
              refine W.widen (k := 0) (n := 0) (Nat.le_of_ble_eq_true rfl) (Nat.le_of_ble_eq_true rfl) ?_
              exact W.zret (v := 1) hx hb hr rfl (fun t ht hW => ⟨⟨1, (), rfl, by first | exact Or.inl ⟨rfl, by omega⟩ | exact Or.inr ⟨rfl, by omega⟩, ⟨by rw [ht]; exact hP9, hD9⟩⟩, hS.F ht⟩) hS.2.2 dX8_upper_61
            · skip
              have ehs10 : c0.toInt = 1 := by rw [hs10]; rfl
              have qhs10 : (1 : Int32).toInt = 1 := rfl
              subst hs10
              refine va_aldq hx hb hK hP 1 4 rfl rfl (z_in (by decide : (1 : Int32).toInt = 1) (by omega) (by omega)) dX8_upper_47 ?_
              refine W.eq (g2 := F0 m 48 ls [.ref c1_]) rfl ?_
              refine lv_iload_n hx hb dX8_upper_48 rfl (lv_at hl 2 rfl) ?_
              refine lv_iload_n hx hb dX8_upper_49 rfl (lv_at hl 3 rfl) ?_
              have hPc := hP.sub (ws' := [(c1_, .inr (3, [.int we1, .ref c1_1, .ref c1_2, .ref c1_3, .ref c1_4, .int se1])), (c1_1, .inl (g.2 0, 32, .inl f1_1)), (c1_2, .inl (g.2 0, 33, .inl f1_2)), (c1_3, .inl (g.2 0, 33, .inl f1_3)), (c1_4, .inl (g.2 0, 16, .inl f1_4))]) [7, 8, 9, 10, 11] rfl
              have hDc := hD.sub (ws' := [(c1_, .inr (3, [.int we1, .ref c1_1, .ref c1_2, .ref c1_3, .ref c1_4, .int se1])), (c1_1, .inl (g.2 0, 32, .inl f1_1)), (c1_2, .inl (g.2 0, 33, .inl f1_2)), (c1_3, .inl (g.2 0, 33, .inl f1_3)), (c1_4, .inl (g.2 0, 16, .inl f1_4))]) [7, 8, 9, 10, 11] (by decide) rfl
              have hFc := va_free (wc := [(c1_, .inr (3, [.int we1, .ref c1_1, .ref c1_2, .ref c1_3, .ref c1_4, .int se1])), (c1_1, .inl (g.2 0, 32, .inl f1_1)), (c1_2, .inl (g.2 0, 33, .inl f1_2)), (c1_3, .inl (g.2 0, 33, .inl f1_3)), (c1_4, .inl (g.2 0, 16, .inl f1_4))]) hD hS hA [7, 8, 9, 10, 11] rfl
              refine va_callv (va_runV (As := [.int nd, .int up]) (rest := []) ⟨hx, hb, hml, hown, hg⟩ (c_X3_hang l g _ c1_ c1_1 c1_2 c1_3 c1_4 f1_1 f1_2 f1_3 f1_4 we1 se1 nd up (by first | omega | assumption | decide)) (cwV 2 hg (z_gV mm_410 mm_411 mm_412 mm_115 mm_413) rfl rfl rfl (by decide +kernel) ⟨Nat.le_of_ble_eq_true rfl, Nat.le_of_ble_eq_true rfl⟩) ⟨(zA.pre [.ref c1_, .int nd, .int up] hPc hK hDc hN).1, va_recv hK hPc (ci := 3) (q0 := 0) rfl rfl, (zA.pre [.ref c1_, .int nd, .int up] hPc hK hDc hN).2⟩ rfl rfl hl.1 rfl (lv_room (Nat.le_of_ble_eq_true rfl)) dX8_upper_50 ⟨Nat.le_of_ble_eq_true rfl, Nat.le_of_ble_eq_true rfl⟩) hS (fun q _ h => hFc q h) hFc (fun _ t H1 locs ht hvm hr17 hB hz1 hk1 hS => ?_)
              obtain ⟨z18, z19, z20, hP1, hD1⟩ := hB
              rw [ht] at hP1
              obtain ⟨hP, hD⟩ := va_join (wr := [(h0, .inr (8, [.ref aC, aW, aT, aB, aL, aG, aM, .ref aA, aU, aE, aD, .int 0, .int 0])), (aC, .inl (g.2 4, 4, .inr (.inr (.inr (.inr (zS [some c0_, some c1_, some c2_, some c3_])))))), (c0_, .inr (3, [.int we0, .ref c0_1, .ref c0_2, .ref c0_3, .ref c0_4, .int se0])), (c0_1, .inl (g.2 0, 32, .inl f0_1)), (c0_2, .inl (g.2 0, 33, .inl f0_2)), (c0_3, .inl (g.2 0, 33, .inl f0_3)), (c0_4, .inl (g.2 0, 16, .inl f0_4)), (c2_, .inr (3, [.int we2, .ref c2_1, .ref c2_2, .ref c2_3, .ref c2_4, .int se2])), (c2_1, .inl (g.2 0, 32, .inl f2_1)), (c2_2, .inl (g.2 0, 33, .inl f2_2)), (c2_3, .inl (g.2 0, 33, .inl f2_3)), (c2_4, .inl (g.2 0, 16, .inl f2_4)), (c3_, .inr (3, [.int we3, .ref c3_1, .ref c3_2, .ref c3_3, .ref c3_4, .int se3])), (c3_1, .inl (g.2 0, 32, .inl f3_1)), (c3_2, .inl (g.2 0, 33, .inl f3_2)), (c3_3, .inl (g.2 0, 33, .inl f3_3)), (c3_4, .inl (g.2 0, 16, .inl f3_4)), (aA, .inr (0, [s1, s2, s3, s4, .int tm]))]) (w1 := [(c1_, .inr (3, [.int we1, .ref c1_1, .ref c1_2, .ref c1_3, .ref c1_4, .int se1])), (c1_1, .inl (g.2 0, 32, .inl z18)), (c1_2, .inl (g.2 0, 33, .inl z19)), (c1_3, .inl (g.2 0, 33, .inl z20)), (c1_4, .inl (g.2 0, 16, .inl f1_4))]) hP hD [7, 8, 9, 10, 11] [0, 1, 2, 3, 4, 5, 6, 12, 13, 14, 15, 16, 17, 18, 19, 20, 21, 22] rfl rfl (by decide) (by decide) hk1 hFc hP1 hD1
              generalize H1 = H at hP hS ⊢
              refine W.widen (k := 0) (n := 0) (Nat.le_of_ble_eq_true rfl) (Nat.le_of_ble_eq_true rfl) ?_
              have hP : zP g [(h0, .inr (8, [.ref aC, aW, aT, aB, aL, aG, aM, .ref aA, aU, aE, aD, .int 0, .int 0])), (aC, .inl (g.2 4, 4, .inr (.inr (.inr (.inr (zS [some c0_, some c1_, some c2_, some c3_])))))), (c0_, .inr (3, [.int we0, .ref c0_1, .ref c0_2, .ref c0_3, .ref c0_4, .int se0])), (c0_1, .inl (g.2 0, 32, .inl f0_1)), (c0_2, .inl (g.2 0, 33, .inl f0_2)), (c0_3, .inl (g.2 0, 33, .inl f0_3)), (c0_4, .inl (g.2 0, 16, .inl f0_4)), (c2_, .inr (3, [.int we2, .ref c2_1, .ref c2_2, .ref c2_3, .ref c2_4, .int se2])), (c2_1, .inl (g.2 0, 32, .inl f2_1)), (c2_2, .inl (g.2 0, 33, .inl f2_2)), (c2_3, .inl (g.2 0, 33, .inl f2_3)), (c2_4, .inl (g.2 0, 16, .inl f2_4)), (c3_, .inr (3, [.int we3, .ref c3_1, .ref c3_2, .ref c3_3, .ref c3_4, .int se3])), (c3_1, .inl (g.2 0, 32, .inl f3_1)), (c3_2, .inl (g.2 0, 33, .inl f3_2)), (c3_3, .inl (g.2 0, 33, .inl f3_3)), (c3_4, .inl (g.2 0, 16, .inl f3_4)), (aA, .inr (0, [s1, s2, s3, s4, .int tm])), (c1_, .inr (3, [.int we1, .ref c1_1, .ref c1_2, .ref c1_3, .ref c1_4, .int se1])), (c1_1, .inl (g.2 0, 32, .inl z18)), (c1_2, .inl (g.2 0, 33, .inl z19)), (c1_3, .inl (g.2 0, 33, .inl z20)), (c1_4, .inl (g.2 0, 16, .inl f1_4))] H := hP
              have hD : va_D A [(h0, .inr (8, [.ref aC, aW, aT, aB, aL, aG, aM, .ref aA, aU, aE, aD, .int 0, .int 0])), (aC, .inl (g.2 4, 4, .inr (.inr (.inr (.inr (zS [some c0_, some c1_, some c2_, some c3_])))))), (c0_, .inr (3, [.int we0, .ref c0_1, .ref c0_2, .ref c0_3, .ref c0_4, .int se0])), (c0_1, .inl (g.2 0, 32, .inl f0_1)), (c0_2, .inl (g.2 0, 33, .inl f0_2)), (c0_3, .inl (g.2 0, 33, .inl f0_3)), (c0_4, .inl (g.2 0, 16, .inl f0_4)), (c2_, .inr (3, [.int we2, .ref c2_1, .ref c2_2, .ref c2_3, .ref c2_4, .int se2])), (c2_1, .inl (g.2 0, 32, .inl f2_1)), (c2_2, .inl (g.2 0, 33, .inl f2_2)), (c2_3, .inl (g.2 0, 33, .inl f2_3)), (c2_4, .inl (g.2 0, 16, .inl f2_4)), (c3_, .inr (3, [.int we3, .ref c3_1, .ref c3_2, .ref c3_3, .ref c3_4, .int se3])), (c3_1, .inl (g.2 0, 32, .inl f3_1)), (c3_2, .inl (g.2 0, 33, .inl f3_2)), (c3_3, .inl (g.2 0, 33, .inl f3_3)), (c3_4, .inl (g.2 0, 16, .inl f3_4)), (aA, .inr (0, [s1, s2, s3, s4, .int tm])), (c1_, .inr (3, [.int we1, .ref c1_1, .ref c1_2, .ref c1_3, .ref c1_4, .int se1])), (c1_1, .inl (g.2 0, 32, .inl z18)), (c1_2, .inl (g.2 0, 33, .inl z19)), (c1_3, .inl (g.2 0, 33, .inl z20)), (c1_4, .inl (g.2 0, 16, .inl f1_4))] := hD
              refine lv_aload_n hx hb dX8_upper_53 rfl (lv_at hl 0 rfl) ?_
              refine va_get (D := g.1) (ci := 8) (v := .ref aA) (C := RX8) (T := TX8) (N := 13) hx hb hg inG8 hown hK hP 0 rfl rfl 7 (by decide) (hg _ mm_367) (fun _ h9 => h9) rfl dX8_upper_54 ?_
              have hPc := hP.sub (ws' := [(aA, .inr (0, [s1, s2, s3, s4, .int tm]))]) [17] rfl
              have hDc := hD.sub (ws' := [(aA, .inr (0, [s1, s2, s3, s4, .int tm]))]) [17] (by decide) rfl
              have hFc := va_free (wc := [(aA, .inr (0, [s1, s2, s3, s4, .int tm]))]) hD hS hA [17] rfl
              refine va_callv (va_runV (As := []) (rest := []) ⟨hx, hb, hml, hown, hg⟩ (c_X0_forget l g _ aA (s1 : Value) (s2 : Value) (s3 : Value) (s4 : Value) tm ) (cwV 0 hg (z_gV mm_419 mm_420 mm_421 mm_112 mm_422) rfl rfl rfl (by decide +kernel) ⟨Nat.le_of_ble_eq_true rfl, Nat.le_of_ble_eq_true rfl⟩) ⟨(zA.pre [.ref aA] hPc hK hDc hN).1, va_recv hK hPc (ci := 0) (q0 := 0) rfl rfl, (zA.pre [.ref aA] hPc hK hDc hN).2⟩ rfl rfl hl.1 rfl (lv_room (Nat.le_of_ble_eq_true rfl)) dX8_upper_57 ⟨Nat.le_of_ble_eq_true rfl, Nat.le_of_ble_eq_true rfl⟩) hS (fun q _ h => hFc q h) hFc (fun _ t H1 locs ht hvm hr21 hB hz1 hk1 hS => ?_)
              obtain ⟨z22, hP1, hD1⟩ := hB
              rw [ht] at hP1
              obtain ⟨hP, hD⟩ := va_join (wr := [(h0, .inr (8, [.ref aC, aW, aT, aB, aL, aG, aM, .ref aA, aU, aE, aD, .int 0, .int 0])), (aC, .inl (g.2 4, 4, .inr (.inr (.inr (.inr (zS [some c0_, some c1_, some c2_, some c3_])))))), (c0_, .inr (3, [.int we0, .ref c0_1, .ref c0_2, .ref c0_3, .ref c0_4, .int se0])), (c0_1, .inl (g.2 0, 32, .inl f0_1)), (c0_2, .inl (g.2 0, 33, .inl f0_2)), (c0_3, .inl (g.2 0, 33, .inl f0_3)), (c0_4, .inl (g.2 0, 16, .inl f0_4)), (c2_, .inr (3, [.int we2, .ref c2_1, .ref c2_2, .ref c2_3, .ref c2_4, .int se2])), (c2_1, .inl (g.2 0, 32, .inl f2_1)), (c2_2, .inl (g.2 0, 33, .inl f2_2)), (c2_3, .inl (g.2 0, 33, .inl f2_3)), (c2_4, .inl (g.2 0, 16, .inl f2_4)), (c3_, .inr (3, [.int we3, .ref c3_1, .ref c3_2, .ref c3_3, .ref c3_4, .int se3])), (c3_1, .inl (g.2 0, 32, .inl f3_1)), (c3_2, .inl (g.2 0, 33, .inl f3_2)), (c3_3, .inl (g.2 0, 33, .inl f3_3)), (c3_4, .inl (g.2 0, 16, .inl f3_4)), (c1_, .inr (3, [.int we1, .ref c1_1, .ref c1_2, .ref c1_3, .ref c1_4, .int se1])), (c1_1, .inl (g.2 0, 32, .inl z18)), (c1_2, .inl (g.2 0, 33, .inl z19)), (c1_3, .inl (g.2 0, 33, .inl z20)), (c1_4, .inl (g.2 0, 16, .inl f1_4))]) (w1 := [(aA, .inr (0, [(s1 : Value), (s2 : Value), (s3 : Value), (s4 : Value), .int z22]))]) hP hD [17] [0, 1, 2, 3, 4, 5, 6, 7, 8, 9, 10, 11, 12, 13, 14, 15, 16, 18, 19, 20, 21, 22] rfl rfl (by decide) (by decide) hk1 hFc hP1 hD1
              generalize H1 = H at hP hS ⊢
              refine W.widen (k := 0) (n := 0) (Nat.le_of_ble_eq_true rfl) (Nat.le_of_ble_eq_true rfl) ?_
              have hP : zP g [(h0, .inr (8, [.ref aC, aW, aT, aB, aL, aG, aM, .ref aA, aU, aE, aD, .int 0, .int 0])), (aC, .inl (g.2 4, 4, .inr (.inr (.inr (.inr (zS [some c0_, some c1_, some c2_, some c3_])))))), (c0_, .inr (3, [.int we0, .ref c0_1, .ref c0_2, .ref c0_3, .ref c0_4, .int se0])), (c0_1, .inl (g.2 0, 32, .inl f0_1)), (c0_2, .inl (g.2 0, 33, .inl f0_2)), (c0_3, .inl (g.2 0, 33, .inl f0_3)), (c0_4, .inl (g.2 0, 16, .inl f0_4)), (c2_, .inr (3, [.int we2, .ref c2_1, .ref c2_2, .ref c2_3, .ref c2_4, .int se2])), (c2_1, .inl (g.2 0, 32, .inl f2_1)), (c2_2, .inl (g.2 0, 33, .inl f2_2)), (c2_3, .inl (g.2 0, 33, .inl f2_3)), (c2_4, .inl (g.2 0, 16, .inl f2_4)), (c3_, .inr (3, [.int we3, .ref c3_1, .ref c3_2, .ref c3_3, .ref c3_4, .int se3])), (c3_1, .inl (g.2 0, 32, .inl f3_1)), (c3_2, .inl (g.2 0, 33, .inl f3_2)), (c3_3, .inl (g.2 0, 33, .inl f3_3)), (c3_4, .inl (g.2 0, 16, .inl f3_4)), (c1_, .inr (3, [.int we1, .ref c1_1, .ref c1_2, .ref c1_3, .ref c1_4, .int se1])), (c1_1, .inl (g.2 0, 32, .inl z18)), (c1_2, .inl (g.2 0, 33, .inl z19)), (c1_3, .inl (g.2 0, 33, .inl z20)), (c1_4, .inl (g.2 0, 16, .inl f1_4)), (aA, .inr (0, [(s1 : Value), (s2 : Value), (s3 : Value), (s4 : Value), .int z22]))] H := hP
              have hD : va_D A [(h0, .inr (8, [.ref aC, aW, aT, aB, aL, aG, aM, .ref aA, aU, aE, aD, .int 0, .int 0])), (aC, .inl (g.2 4, 4, .inr (.inr (.inr (.inr (zS [some c0_, some c1_, some c2_, some c3_])))))), (c0_, .inr (3, [.int we0, .ref c0_1, .ref c0_2, .ref c0_3, .ref c0_4, .int se0])), (c0_1, .inl (g.2 0, 32, .inl f0_1)), (c0_2, .inl (g.2 0, 33, .inl f0_2)), (c0_3, .inl (g.2 0, 33, .inl f0_3)), (c0_4, .inl (g.2 0, 16, .inl f0_4)), (c2_, .inr (3, [.int we2, .ref c2_1, .ref c2_2, .ref c2_3, .ref c2_4, .int se2])), (c2_1, .inl (g.2 0, 32, .inl f2_1)), (c2_2, .inl (g.2 0, 33, .inl f2_2)), (c2_3, .inl (g.2 0, 33, .inl f2_3)), (c2_4, .inl (g.2 0, 16, .inl f2_4)), (c3_, .inr (3, [.int we3, .ref c3_1, .ref c3_2, .ref c3_3, .ref c3_4, .int se3])), (c3_1, .inl (g.2 0, 32, .inl f3_1)), (c3_2, .inl (g.2 0, 33, .inl f3_2)), (c3_3, .inl (g.2 0, 33, .inl f3_3)), (c3_4, .inl (g.2 0, 16, .inl f3_4)), (c1_, .inr (3, [.int we1, .ref c1_1, .ref c1_2, .ref c1_3, .ref c1_4, .int se1])), (c1_1, .inl (g.2 0, 32, .inl z18)), (c1_2, .inl (g.2 0, 33, .inl z19)), (c1_3, .inl (g.2 0, 33, .inl z20)), (c1_4, .inl (g.2 0, 16, .inl f1_4)), (aA, .inr (0, [(s1 : Value), (s2 : Value), (s3 : Value), (s4 : Value), .int z22]))] := hD
              refine lv_iconst (v := 1) hx hb dX8_upper_60 (by decide) ?_
              have hP9 := hP.sub (ws' := []) [] rfl
              have hD9 := hD.sub (ws' := []) [] (by decide) rfl
              refine W.widen (k := 0) (n := 0) (Nat.le_of_ble_eq_true rfl) (Nat.le_of_ble_eq_true rfl) ?_
              exact W.zret (v := 1) hx hb hr rfl (fun t ht hW => ⟨⟨1, (), rfl, by first | exact Or.inl ⟨rfl, by omega⟩ | exact Or.inr ⟨rfl, by omega⟩, ⟨by rw [ht]; exact hP9, hD9⟩⟩, hS.F ht⟩) hS.2.2 dX8_upper_61
            · skip
              have ehs10 : c0.toInt = 2 := by rw [hs10]; rfl
              have qhs10 : (2 : Int32).toInt = 2 := rfl
              subst hs10
              refine va_aldq hx hb hK hP 1 4 rfl rfl (z_in (by decide : (2 : Int32).toInt = 2) (by omega) (by omega)) dX8_upper_47 ?_
              refine W.eq (g2 := F0 m 48 ls [.ref c2_]) rfl ?_
              refine lv_iload_n hx hb dX8_upper_48 rfl (lv_at hl 2 rfl) ?_
              refine lv_iload_n hx hb dX8_upper_49 rfl (lv_at hl 3 rfl) ?_
              have hPc := hP.sub (ws' := [(c2_, .inr (3, [.int we2, .ref c2_1, .ref c2_2, .ref c2_3, .ref c2_4, .int se2])), (c2_1, .inl (g.2 0, 32, .inl f2_1)), (c2_2, .inl (g.2 0, 33, .inl f2_2)), (c2_3, .inl (g.2 0, 33, .inl f2_3)), (c2_4, .inl (g.2 0, 16, .inl f2_4))]) [12, 13, 14, 15, 16] rfl
              have hDc := hD.sub (ws' := [(c2_, .inr (3, [.int we2, .ref c2_1, .ref c2_2, .ref c2_3, .ref c2_4, .int se2])), (c2_1, .inl (g.2 0, 32, .inl f2_1)), (c2_2, .inl (g.2 0, 33, .inl f2_2)), (c2_3, .inl (g.2 0, 33, .inl f2_3)), (c2_4, .inl (g.2 0, 16, .inl f2_4))]) [12, 13, 14, 15, 16] (by decide) rfl
              have hFc := va_free (wc := [(c2_, .inr (3, [.int we2, .ref c2_1, .ref c2_2, .ref c2_3, .ref c2_4, .int se2])), (c2_1, .inl (g.2 0, 32, .inl f2_1)), (c2_2, .inl (g.2 0, 33, .inl f2_2)), (c2_3, .inl (g.2 0, 33, .inl f2_3)), (c2_4, .inl (g.2 0, 16, .inl f2_4))]) hD hS hA [12, 13, 14, 15, 16] rfl
              refine va_callv (va_runV (As := [.int nd, .int up]) (rest := []) ⟨hx, hb, hml, hown, hg⟩ (c_X3_hang l g _ c2_ c2_1 c2_2 c2_3 c2_4 f2_1 f2_2 f2_3 f2_4 we2 se2 nd up (by first | omega | assumption | decide)) (cwV 2 hg (z_gV mm_410 mm_411 mm_412 mm_115 mm_413) rfl rfl rfl (by decide +kernel) ⟨Nat.le_of_ble_eq_true rfl, Nat.le_of_ble_eq_true rfl⟩) ⟨(zA.pre [.ref c2_, .int nd, .int up] hPc hK hDc hN).1, va_recv hK hPc (ci := 3) (q0 := 0) rfl rfl, (zA.pre [.ref c2_, .int nd, .int up] hPc hK hDc hN).2⟩ rfl rfl hl.1 rfl (lv_room (Nat.le_of_ble_eq_true rfl)) dX8_upper_50 ⟨Nat.le_of_ble_eq_true rfl, Nat.le_of_ble_eq_true rfl⟩) hS (fun q _ h => hFc q h) hFc (fun _ t H1 locs ht hvm hr23 hB hz1 hk1 hS => ?_)
              obtain ⟨z24, z25, z26, hP1, hD1⟩ := hB
              rw [ht] at hP1
              obtain ⟨hP, hD⟩ := va_join (wr := [(h0, .inr (8, [.ref aC, aW, aT, aB, aL, aG, aM, .ref aA, aU, aE, aD, .int 0, .int 0])), (aC, .inl (g.2 4, 4, .inr (.inr (.inr (.inr (zS [some c0_, some c1_, some c2_, some c3_])))))), (c0_, .inr (3, [.int we0, .ref c0_1, .ref c0_2, .ref c0_3, .ref c0_4, .int se0])), (c0_1, .inl (g.2 0, 32, .inl f0_1)), (c0_2, .inl (g.2 0, 33, .inl f0_2)), (c0_3, .inl (g.2 0, 33, .inl f0_3)), (c0_4, .inl (g.2 0, 16, .inl f0_4)), (c1_, .inr (3, [.int we1, .ref c1_1, .ref c1_2, .ref c1_3, .ref c1_4, .int se1])), (c1_1, .inl (g.2 0, 32, .inl f1_1)), (c1_2, .inl (g.2 0, 33, .inl f1_2)), (c1_3, .inl (g.2 0, 33, .inl f1_3)), (c1_4, .inl (g.2 0, 16, .inl f1_4)), (c3_, .inr (3, [.int we3, .ref c3_1, .ref c3_2, .ref c3_3, .ref c3_4, .int se3])), (c3_1, .inl (g.2 0, 32, .inl f3_1)), (c3_2, .inl (g.2 0, 33, .inl f3_2)), (c3_3, .inl (g.2 0, 33, .inl f3_3)), (c3_4, .inl (g.2 0, 16, .inl f3_4)), (aA, .inr (0, [s1, s2, s3, s4, .int tm]))]) (w1 := [(c2_, .inr (3, [.int we2, .ref c2_1, .ref c2_2, .ref c2_3, .ref c2_4, .int se2])), (c2_1, .inl (g.2 0, 32, .inl z24)), (c2_2, .inl (g.2 0, 33, .inl z25)), (c2_3, .inl (g.2 0, 33, .inl z26)), (c2_4, .inl (g.2 0, 16, .inl f2_4))]) hP hD [12, 13, 14, 15, 16] [0, 1, 2, 3, 4, 5, 6, 7, 8, 9, 10, 11, 17, 18, 19, 20, 21, 22] rfl rfl (by decide) (by decide) hk1 hFc hP1 hD1
              generalize H1 = H at hP hS ⊢
              refine W.widen (k := 0) (n := 0) (Nat.le_of_ble_eq_true rfl) (Nat.le_of_ble_eq_true rfl) ?_
              have hP : zP g [(h0, .inr (8, [.ref aC, aW, aT, aB, aL, aG, aM, .ref aA, aU, aE, aD, .int 0, .int 0])), (aC, .inl (g.2 4, 4, .inr (.inr (.inr (.inr (zS [some c0_, some c1_, some c2_, some c3_])))))), (c0_, .inr (3, [.int we0, .ref c0_1, .ref c0_2, .ref c0_3, .ref c0_4, .int se0])), (c0_1, .inl (g.2 0, 32, .inl f0_1)), (c0_2, .inl (g.2 0, 33, .inl f0_2)), (c0_3, .inl (g.2 0, 33, .inl f0_3)), (c0_4, .inl (g.2 0, 16, .inl f0_4)), (c1_, .inr (3, [.int we1, .ref c1_1, .ref c1_2, .ref c1_3, .ref c1_4, .int se1])), (c1_1, .inl (g.2 0, 32, .inl f1_1)), (c1_2, .inl (g.2 0, 33, .inl f1_2)), (c1_3, .inl (g.2 0, 33, .inl f1_3)), (c1_4, .inl (g.2 0, 16, .inl f1_4)), (c3_, .inr (3, [.int we3, .ref c3_1, .ref c3_2, .ref c3_3, .ref c3_4, .int se3])), (c3_1, .inl (g.2 0, 32, .inl f3_1)), (c3_2, .inl (g.2 0, 33, .inl f3_2)), (c3_3, .inl (g.2 0, 33, .inl f3_3)), (c3_4, .inl (g.2 0, 16, .inl f3_4)), (aA, .inr (0, [s1, s2, s3, s4, .int tm])), (c2_, .inr (3, [.int we2, .ref c2_1, .ref c2_2, .ref c2_3, .ref c2_4, .int se2])), (c2_1, .inl (g.2 0, 32, .inl z24)), (c2_2, .inl (g.2 0, 33, .inl z25)), (c2_3, .inl (g.2 0, 33, .inl z26)), (c2_4, .inl (g.2 0, 16, .inl f2_4))] H := hP
              have hD : va_D A [(h0, .inr (8, [.ref aC, aW, aT, aB, aL, aG, aM, .ref aA, aU, aE, aD, .int 0, .int 0])), (aC, .inl (g.2 4, 4, .inr (.inr (.inr (.inr (zS [some c0_, some c1_, some c2_, some c3_])))))), (c0_, .inr (3, [.int we0, .ref c0_1, .ref c0_2, .ref c0_3, .ref c0_4, .int se0])), (c0_1, .inl (g.2 0, 32, .inl f0_1)), (c0_2, .inl (g.2 0, 33, .inl f0_2)), (c0_3, .inl (g.2 0, 33, .inl f0_3)), (c0_4, .inl (g.2 0, 16, .inl f0_4)), (c1_, .inr (3, [.int we1, .ref c1_1, .ref c1_2, .ref c1_3, .ref c1_4, .int se1])), (c1_1, .inl (g.2 0, 32, .inl f1_1)), (c1_2, .inl (g.2 0, 33, .inl f1_2)), (c1_3, .inl (g.2 0, 33, .inl f1_3)), (c1_4, .inl (g.2 0, 16, .inl f1_4)), (c3_, .inr (3, [.int we3, .ref c3_1, .ref c3_2, .ref c3_3, .ref c3_4, .int se3])), (c3_1, .inl (g.2 0, 32, .inl f3_1)), (c3_2, .inl (g.2 0, 33, .inl f3_2)), (c3_3, .inl (g.2 0, 33, .inl f3_3)), (c3_4, .inl (g.2 0, 16, .inl f3_4)), (aA, .inr (0, [s1, s2, s3, s4, .int tm])), (c2_, .inr (3, [.int we2, .ref c2_1, .ref c2_2, .ref c2_3, .ref c2_4, .int se2])), (c2_1, .inl (g.2 0, 32, .inl z24)), (c2_2, .inl (g.2 0, 33, .inl z25)), (c2_3, .inl (g.2 0, 33, .inl z26)), (c2_4, .inl (g.2 0, 16, .inl f2_4))] := hD
              refine lv_aload_n hx hb dX8_upper_53 rfl (lv_at hl 0 rfl) ?_
              refine va_get (D := g.1) (ci := 8) (v := .ref aA) (C := RX8) (T := TX8) (N := 13) hx hb hg inG8 hown hK hP 0 rfl rfl 7 (by decide) (hg _ mm_367) (fun _ h9 => h9) rfl dX8_upper_54 ?_
              have hPc := hP.sub (ws' := [(aA, .inr (0, [s1, s2, s3, s4, .int tm]))]) [17] rfl
              have hDc := hD.sub (ws' := [(aA, .inr (0, [s1, s2, s3, s4, .int tm]))]) [17] (by decide) rfl
              have hFc := va_free (wc := [(aA, .inr (0, [s1, s2, s3, s4, .int tm]))]) hD hS hA [17] rfl
              refine va_callv (va_runV (As := []) (rest := []) ⟨hx, hb, hml, hown, hg⟩ (c_X0_forget l g _ aA (s1 : Value) (s2 : Value) (s3 : Value) (s4 : Value) tm ) (cwV 0 hg (z_gV mm_419 mm_420 mm_421 mm_112 mm_422) rfl rfl rfl (by decide +kernel) ⟨Nat.le_of_ble_eq_true rfl, Nat.le_of_ble_eq_true rfl⟩) ⟨(zA.pre [.ref aA] hPc hK hDc hN).1, va_recv hK hPc (ci := 0) (q0 := 0) rfl rfl, (zA.pre [.ref aA] hPc hK hDc hN).2⟩ rfl rfl hl.1 rfl (lv_room (Nat.le_of_ble_eq_true rfl)) dX8_upper_57 ⟨Nat.le_of_ble_eq_true rfl, Nat.le_of_ble_eq_true rfl⟩) hS (fun q _ h => hFc q h) hFc (fun _ t H1 locs ht hvm hr27 hB hz1 hk1 hS => ?_)
              obtain ⟨z28, hP1, hD1⟩ := hB
              rw [ht] at hP1
              obtain ⟨hP, hD⟩ := va_join (wr := [(h0, .inr (8, [.ref aC, aW, aT, aB, aL, aG, aM, .ref aA, aU, aE, aD, .int 0, .int 0])), (aC, .inl (g.2 4, 4, .inr (.inr (.inr (.inr (zS [some c0_, some c1_, some c2_, some c3_])))))), (c0_, .inr (3, [.int we0, .ref c0_1, .ref c0_2, .ref c0_3, .ref c0_4, .int se0])), (c0_1, .inl (g.2 0, 32, .inl f0_1)), (c0_2, .inl (g.2 0, 33, .inl f0_2)), (c0_3, .inl (g.2 0, 33, .inl f0_3)), (c0_4, .inl (g.2 0, 16, .inl f0_4)), (c1_, .inr (3, [.int we1, .ref c1_1, .ref c1_2, .ref c1_3, .ref c1_4, .int se1])), (c1_1, .inl (g.2 0, 32, .inl f1_1)), (c1_2, .inl (g.2 0, 33, .inl f1_2)), (c1_3, .inl (g.2 0, 33, .inl f1_3)), (c1_4, .inl (g.2 0, 16, .inl f1_4)), (c3_, .inr (3, [.int we3, .ref c3_1, .ref c3_2, .ref c3_3, .ref c3_4, .int se3])), (c3_1, .inl (g.2 0, 32, .inl f3_1)), (c3_2, .inl (g.2 0, 33, .inl f3_2)), (c3_3, .inl (g.2 0, 33, .inl f3_3)), (c3_4, .inl (g.2 0, 16, .inl f3_4)), (c2_, .inr (3, [.int we2, .ref c2_1, .ref c2_2, .ref c2_3, .ref c2_4, .int se2])), (c2_1, .inl (g.2 0, 32, .inl z24)), (c2_2, .inl (g.2 0, 33, .inl z25)), (c2_3, .inl (g.2 0, 33, .inl z26)), (c2_4, .inl (g.2 0, 16, .inl f2_4))]) (w1 := [(aA, .inr (0, [(s1 : Value), (s2 : Value), (s3 : Value), (s4 : Value), .int z28]))]) hP hD [17] [0, 1, 2, 3, 4, 5, 6, 7, 8, 9, 10, 11, 12, 13, 14, 15, 16, 18, 19, 20, 21, 22] rfl rfl (by decide) (by decide) hk1 hFc hP1 hD1
              generalize H1 = H at hP hS ⊢
              refine W.widen (k := 0) (n := 0) (Nat.le_of_ble_eq_true rfl) (Nat.le_of_ble_eq_true rfl) ?_
              have hP : zP g [(h0, .inr (8, [.ref aC, aW, aT, aB, aL, aG, aM, .ref aA, aU, aE, aD, .int 0, .int 0])), (aC, .inl (g.2 4, 4, .inr (.inr (.inr (.inr (zS [some c0_, some c1_, some c2_, some c3_])))))), (c0_, .inr (3, [.int we0, .ref c0_1, .ref c0_2, .ref c0_3, .ref c0_4, .int se0])), (c0_1, .inl (g.2 0, 32, .inl f0_1)), (c0_2, .inl (g.2 0, 33, .inl f0_2)), (c0_3, .inl (g.2 0, 33, .inl f0_3)), (c0_4, .inl (g.2 0, 16, .inl f0_4)), (c1_, .inr (3, [.int we1, .ref c1_1, .ref c1_2, .ref c1_3, .ref c1_4, .int se1])), (c1_1, .inl (g.2 0, 32, .inl f1_1)), (c1_2, .inl (g.2 0, 33, .inl f1_2)), (c1_3, .inl (g.2 0, 33, .inl f1_3)), (c1_4, .inl (g.2 0, 16, .inl f1_4)), (c3_, .inr (3, [.int we3, .ref c3_1, .ref c3_2, .ref c3_3, .ref c3_4, .int se3])), (c3_1, .inl (g.2 0, 32, .inl f3_1)), (c3_2, .inl (g.2 0, 33, .inl f3_2)), (c3_3, .inl (g.2 0, 33, .inl f3_3)), (c3_4, .inl (g.2 0, 16, .inl f3_4)), (c2_, .inr (3, [.int we2, .ref c2_1, .ref c2_2, .ref c2_3, .ref c2_4, .int se2])), (c2_1, .inl (g.2 0, 32, .inl z24)), (c2_2, .inl (g.2 0, 33, .inl z25)), (c2_3, .inl (g.2 0, 33, .inl z26)), (c2_4, .inl (g.2 0, 16, .inl f2_4)), (aA, .inr (0, [(s1 : Value), (s2 : Value), (s3 : Value), (s4 : Value), .int z28]))] H := hP
              have hD : va_D A [(h0, .inr (8, [.ref aC, aW, aT, aB, aL, aG, aM, .ref aA, aU, aE, aD, .int 0, .int 0])), (aC, .inl (g.2 4, 4, .inr (.inr (.inr (.inr (zS [some c0_, some c1_, some c2_, some c3_])))))), (c0_, .inr (3, [.int we0, .ref c0_1, .ref c0_2, .ref c0_3, .ref c0_4, .int se0])), (c0_1, .inl (g.2 0, 32, .inl f0_1)), (c0_2, .inl (g.2 0, 33, .inl f0_2)), (c0_3, .inl (g.2 0, 33, .inl f0_3)), (c0_4, .inl (g.2 0, 16, .inl f0_4)), (c1_, .inr (3, [.int we1, .ref c1_1, .ref c1_2, .ref c1_3, .ref c1_4, .int se1])), (c1_1, .inl (g.2 0, 32, .inl f1_1)), (c1_2, .inl (g.2 0, 33, .inl f1_2)), (c1_3, .inl (g.2 0, 33, .inl f1_3)), (c1_4, .inl (g.2 0, 16, .inl f1_4)), (c3_, .inr (3, [.int we3, .ref c3_1, .ref c3_2, .ref c3_3, .ref c3_4, .int se3])), (c3_1, .inl (g.2 0, 32, .inl f3_1)), (c3_2, .inl (g.2 0, 33, .inl f3_2)), (c3_3, .inl (g.2 0, 33, .inl f3_3)), (c3_4, .inl (g.2 0, 16, .inl f3_4)), (c2_, .inr (3, [.int we2, .ref c2_1, .ref c2_2, .ref c2_3, .ref c2_4, .int se2])), (c2_1, .inl (g.2 0, 32, .inl z24)), (c2_2, .inl (g.2 0, 33, .inl z25)), (c2_3, .inl (g.2 0, 33, .inl z26)), (c2_4, .inl (g.2 0, 16, .inl f2_4)), (aA, .inr (0, [(s1 : Value), (s2 : Value), (s3 : Value), (s4 : Value), .int z28]))] := hD
              refine lv_iconst (v := 1) hx hb dX8_upper_60 (by decide) ?_
              have hP9 := hP.sub (ws' := []) [] rfl
              have hD9 := hD.sub (ws' := []) [] (by decide) rfl
              refine W.widen (k := 0) (n := 0) (Nat.le_of_ble_eq_true rfl) (Nat.le_of_ble_eq_true rfl) ?_
              exact W.zret (v := 1) hx hb hr rfl (fun t ht hW => ⟨⟨1, (), rfl, by first | exact Or.inl ⟨rfl, by omega⟩ | exact Or.inr ⟨rfl, by omega⟩, ⟨by rw [ht]; exact hP9, hD9⟩⟩, hS.F ht⟩) hS.2.2 dX8_upper_61
            · skip
              have ehs10 : c0.toInt = 3 := by rw [hs10]; rfl
              have qhs10 : (3 : Int32).toInt = 3 := rfl
              subst hs10
              refine va_aldq hx hb hK hP 1 4 rfl rfl (z_in (by decide : (3 : Int32).toInt = 3) (by omega) (by omega)) dX8_upper_47 ?_
              refine W.eq (g2 := F0 m 48 ls [.ref c3_]) rfl ?_
              refine lv_iload_n hx hb dX8_upper_48 rfl (lv_at hl 2 rfl) ?_
              refine lv_iload_n hx hb dX8_upper_49 rfl (lv_at hl 3 rfl) ?_
              have hPc := hP.sub (ws' := [(c3_, .inr (3, [.int we3, .ref c3_1, .ref c3_2, .ref c3_3, .ref c3_4, .int se3])), (c3_1, .inl (g.2 0, 32, .inl f3_1)), (c3_2, .inl (g.2 0, 33, .inl f3_2)), (c3_3, .inl (g.2 0, 33, .inl f3_3)), (c3_4, .inl (g.2 0, 16, .inl f3_4))]) [17, 18, 19, 20, 21] rfl
              have hDc := hD.sub (ws' := [(c3_, .inr (3, [.int we3, .ref c3_1, .ref c3_2, .ref c3_3, .ref c3_4, .int se3])), (c3_1, .inl (g.2 0, 32, .inl f3_1)), (c3_2, .inl (g.2 0, 33, .inl f3_2)), (c3_3, .inl (g.2 0, 33, .inl f3_3)), (c3_4, .inl (g.2 0, 16, .inl f3_4))]) [17, 18, 19, 20, 21] (by decide) rfl
              have hFc := va_free (wc := [(c3_, .inr (3, [.int we3, .ref c3_1, .ref c3_2, .ref c3_3, .ref c3_4, .int se3])), (c3_1, .inl (g.2 0, 32, .inl f3_1)), (c3_2, .inl (g.2 0, 33, .inl f3_2)), (c3_3, .inl (g.2 0, 33, .inl f3_3)), (c3_4, .inl (g.2 0, 16, .inl f3_4))]) hD hS hA [17, 18, 19, 20, 21] rfl
              refine va_callv (va_runV (As := [.int nd, .int up]) (rest := []) ⟨hx, hb, hml, hown, hg⟩ (c_X3_hang l g _ c3_ c3_1 c3_2 c3_3 c3_4 f3_1 f3_2 f3_3 f3_4 we3 se3 nd up (by first | omega | assumption | decide)) (cwV 2 hg (z_gV mm_410 mm_411 mm_412 mm_115 mm_413) rfl rfl rfl (by decide +kernel) ⟨Nat.le_of_ble_eq_true rfl, Nat.le_of_ble_eq_true rfl⟩) ⟨(zA.pre [.ref c3_, .int nd, .int up] hPc hK hDc hN).1, va_recv hK hPc (ci := 3) (q0 := 0) rfl rfl, (zA.pre [.ref c3_, .int nd, .int up] hPc hK hDc hN).2⟩ rfl rfl hl.1 rfl (lv_room (Nat.le_of_ble_eq_true rfl)) dX8_upper_50 ⟨Nat.le_of_ble_eq_true rfl, Nat.le_of_ble_eq_true rfl⟩) hS (fun q _ h => hFc q h) hFc (fun _ t H1 locs ht hvm hr29 hB hz1 hk1 hS => ?_)
              obtain ⟨z30, z31, z32, hP1, hD1⟩ := hB
              rw [ht] at hP1
              obtain ⟨hP, hD⟩ := va_join (wr := [(h0, .inr (8, [.ref aC, aW, aT, aB, aL, aG, aM, .ref aA, aU, aE, aD, .int 0, .int 0])), (aC, .inl (g.2 4, 4, .inr (.inr (.inr (.inr (zS [some c0_, some c1_, some c2_, some c3_])))))), (c0_, .inr (3, [.int we0, .ref c0_1, .ref c0_2, .ref c0_3, .ref c0_4, .int se0])), (c0_1, .inl (g.2 0, 32, .inl f0_1)), (c0_2, .inl (g.2 0, 33, .inl f0_2)), (c0_3, .inl (g.2 0, 33, .inl f0_3)), (c0_4, .inl (g.2 0, 16, .inl f0_4)), (c1_, .inr (3, [.int we1, .ref c1_1, .ref c1_2, .ref c1_3, .ref c1_4, .int se1])), (c1_1, .inl (g.2 0, 32, .inl f1_1)), (c1_2, .inl (g.2 0, 33, .inl f1_2)), (c1_3, .inl (g.2 0, 33, .inl f1_3)), (c1_4, .inl (g.2 0, 16, .inl f1_4)), (c2_, .inr (3, [.int we2, .ref c2_1, .ref c2_2, .ref c2_3, .ref c2_4, .int se2])), (c2_1, .inl (g.2 0, 32, .inl f2_1)), (c2_2, .inl (g.2 0, 33, .inl f2_2)), (c2_3, .inl (g.2 0, 33, .inl f2_3)), (c2_4, .inl (g.2 0, 16, .inl f2_4)), (aA, .inr (0, [s1, s2, s3, s4, .int tm]))]) (w1 := [(c3_, .inr (3, [.int we3, .ref c3_1, .ref c3_2, .ref c3_3, .ref c3_4, .int se3])), (c3_1, .inl (g.2 0, 32, .inl z30)), (c3_2, .inl (g.2 0, 33, .inl z31)), (c3_3, .inl (g.2 0, 33, .inl z32)), (c3_4, .inl (g.2 0, 16, .inl f3_4))]) hP hD [17, 18, 19, 20, 21] [0, 1, 2, 3, 4, 5, 6, 7, 8, 9, 10, 11, 12, 13, 14, 15, 16, 22] rfl rfl (by decide) (by decide) hk1 hFc hP1 hD1
              generalize H1 = H at hP hS ⊢
              refine W.widen (k := 0) (n := 0) (Nat.le_of_ble_eq_true rfl) (Nat.le_of_ble_eq_true rfl) ?_
              have hP : zP g [(h0, .inr (8, [.ref aC, aW, aT, aB, aL, aG, aM, .ref aA, aU, aE, aD, .int 0, .int 0])), (aC, .inl (g.2 4, 4, .inr (.inr (.inr (.inr (zS [some c0_, some c1_, some c2_, some c3_])))))), (c0_, .inr (3, [.int we0, .ref c0_1, .ref c0_2, .ref c0_3, .ref c0_4, .int se0])), (c0_1, .inl (g.2 0, 32, .inl f0_1)), (c0_2, .inl (g.2 0, 33, .inl f0_2)), (c0_3, .inl (g.2 0, 33, .inl f0_3)), (c0_4, .inl (g.2 0, 16, .inl f0_4)), (c1_, .inr (3, [.int we1, .ref c1_1, .ref c1_2, .ref c1_3, .ref c1_4, .int se1])), (c1_1, .inl (g.2 0, 32, .inl f1_1)), (c1_2, .inl (g.2 0, 33, .inl f1_2)), (c1_3, .inl (g.2 0, 33, .inl f1_3)), (c1_4, .inl (g.2 0, 16, .inl f1_4)), (c2_, .inr (3, [.int we2, .ref c2_1, .ref c2_2, .ref c2_3, .ref c2_4, .int se2])), (c2_1, .inl (g.2 0, 32, .inl f2_1)), (c2_2, .inl (g.2 0, 33, .inl f2_2)), (c2_3, .inl (g.2 0, 33, .inl f2_3)), (c2_4, .inl (g.2 0, 16, .inl f2_4)), (aA, .inr (0, [s1, s2, s3, s4, .int tm])), (c3_, .inr (3, [.int we3, .ref c3_1, .ref c3_2, .ref c3_3, .ref c3_4, .int se3])), (c3_1, .inl (g.2 0, 32, .inl z30)), (c3_2, .inl (g.2 0, 33, .inl z31)), (c3_3, .inl (g.2 0, 33, .inl z32)), (c3_4, .inl (g.2 0, 16, .inl f3_4))] H := hP
              have hD : va_D A [(h0, .inr (8, [.ref aC, aW, aT, aB, aL, aG, aM, .ref aA, aU, aE, aD, .int 0, .int 0])), (aC, .inl (g.2 4, 4, .inr (.inr (.inr (.inr (zS [some c0_, some c1_, some c2_, some c3_])))))), (c0_, .inr (3, [.int we0, .ref c0_1, .ref c0_2, .ref c0_3, .ref c0_4, .int se0])), (c0_1, .inl (g.2 0, 32, .inl f0_1)), (c0_2, .inl (g.2 0, 33, .inl f0_2)), (c0_3, .inl (g.2 0, 33, .inl f0_3)), (c0_4, .inl (g.2 0, 16, .inl f0_4)), (c1_, .inr (3, [.int we1, .ref c1_1, .ref c1_2, .ref c1_3, .ref c1_4, .int se1])), (c1_1, .inl (g.2 0, 32, .inl f1_1)), (c1_2, .inl (g.2 0, 33, .inl f1_2)), (c1_3, .inl (g.2 0, 33, .inl f1_3)), (c1_4, .inl (g.2 0, 16, .inl f1_4)), (c2_, .inr (3, [.int we2, .ref c2_1, .ref c2_2, .ref c2_3, .ref c2_4, .int se2])), (c2_1, .inl (g.2 0, 32, .inl f2_1)), (c2_2, .inl (g.2 0, 33, .inl f2_2)), (c2_3, .inl (g.2 0, 33, .inl f2_3)), (c2_4, .inl (g.2 0, 16, .inl f2_4)), (aA, .inr (0, [s1, s2, s3, s4, .int tm])), (c3_, .inr (3, [.int we3, .ref c3_1, .ref c3_2, .ref c3_3, .ref c3_4, .int se3])), (c3_1, .inl (g.2 0, 32, .inl z30)), (c3_2, .inl (g.2 0, 33, .inl z31)), (c3_3, .inl (g.2 0, 33, .inl z32)), (c3_4, .inl (g.2 0, 16, .inl f3_4))] := hD
              refine lv_aload_n hx hb dX8_upper_53 rfl (lv_at hl 0 rfl) ?_
              refine va_get (D := g.1) (ci := 8) (v := .ref aA) (C := RX8) (T := TX8) (N := 13) hx hb hg inG8 hown hK hP 0 rfl rfl 7 (by decide) (hg _ mm_367) (fun _ h9 => h9) rfl dX8_upper_54 ?_
              have hPc := hP.sub (ws' := [(aA, .inr (0, [s1, s2, s3, s4, .int tm]))]) [17] rfl
              have hDc := hD.sub (ws' := [(aA, .inr (0, [s1, s2, s3, s4, .int tm]))]) [17] (by decide) rfl
              have hFc := va_free (wc := [(aA, .inr (0, [s1, s2, s3, s4, .int tm]))]) hD hS hA [17] rfl
              refine va_callv (va_runV (As := []) (rest := []) ⟨hx, hb, hml, hown, hg⟩ (c_X0_forget l g _ aA (s1 : Value) (s2 : Value) (s3 : Value) (s4 : Value) tm ) (cwV 0 hg (z_gV mm_419 mm_420 mm_421 mm_112 mm_422) rfl rfl rfl (by decide +kernel) ⟨Nat.le_of_ble_eq_true rfl, Nat.le_of_ble_eq_true rfl⟩) ⟨(zA.pre [.ref aA] hPc hK hDc hN).1, va_recv hK hPc (ci := 0) (q0 := 0) rfl rfl, (zA.pre [.ref aA] hPc hK hDc hN).2⟩ rfl rfl hl.1 rfl (lv_room (Nat.le_of_ble_eq_true rfl)) dX8_upper_57 ⟨Nat.le_of_ble_eq_true rfl, Nat.le_of_ble_eq_true rfl⟩) hS (fun q _ h => hFc q h) hFc (fun _ t H1 locs ht hvm hr33 hB hz1 hk1 hS => ?_)
              obtain ⟨z34, hP1, hD1⟩ := hB
              rw [ht] at hP1
              obtain ⟨hP, hD⟩ := va_join (wr := [(h0, .inr (8, [.ref aC, aW, aT, aB, aL, aG, aM, .ref aA, aU, aE, aD, .int 0, .int 0])), (aC, .inl (g.2 4, 4, .inr (.inr (.inr (.inr (zS [some c0_, some c1_, some c2_, some c3_])))))), (c0_, .inr (3, [.int we0, .ref c0_1, .ref c0_2, .ref c0_3, .ref c0_4, .int se0])), (c0_1, .inl (g.2 0, 32, .inl f0_1)), (c0_2, .inl (g.2 0, 33, .inl f0_2)), (c0_3, .inl (g.2 0, 33, .inl f0_3)), (c0_4, .inl (g.2 0, 16, .inl f0_4)), (c1_, .inr (3, [.int we1, .ref c1_1, .ref c1_2, .ref c1_3, .ref c1_4, .int se1])), (c1_1, .inl (g.2 0, 32, .inl f1_1)), (c1_2, .inl (g.2 0, 33, .inl f1_2)), (c1_3, .inl (g.2 0, 33, .inl f1_3)), (c1_4, .inl (g.2 0, 16, .inl f1_4)), (c2_, .inr (3, [.int we2, .ref c2_1, .ref c2_2, .ref c2_3, .ref c2_4, .int se2])), (c2_1, .inl (g.2 0, 32, .inl f2_1)), (c2_2, .inl (g.2 0, 33, .inl f2_2)), (c2_3, .inl (g.2 0, 33, .inl f2_3)), (c2_4, .inl (g.2 0, 16, .inl f2_4)), (c3_, .inr (3, [.int we3, .ref c3_1, .ref c3_2, .ref c3_3, .ref c3_4, .int se3])), (c3_1, .inl (g.2 0, 32, .inl z30)), (c3_2, .inl (g.2 0, 33, .inl z31)), (c3_3, .inl (g.2 0, 33, .inl z32)), (c3_4, .inl (g.2 0, 16, .inl f3_4))]) (w1 := [(aA, .inr (0, [(s1 : Value), (s2 : Value), (s3 : Value), (s4 : Value), .int z34]))]) hP hD [17] [0, 1, 2, 3, 4, 5, 6, 7, 8, 9, 10, 11, 12, 13, 14, 15, 16, 18, 19, 20, 21, 22] rfl rfl (by decide) (by decide) hk1 hFc hP1 hD1
              generalize H1 = H at hP hS ⊢
              refine W.widen (k := 0) (n := 0) (Nat.le_of_ble_eq_true rfl) (Nat.le_of_ble_eq_true rfl) ?_
              have hP : zP g [(h0, .inr (8, [.ref aC, aW, aT, aB, aL, aG, aM, .ref aA, aU, aE, aD, .int 0, .int 0])), (aC, .inl (g.2 4, 4, .inr (.inr (.inr (.inr (zS [some c0_, some c1_, some c2_, some c3_])))))), (c0_, .inr (3, [.int we0, .ref c0_1, .ref c0_2, .ref c0_3, .ref c0_4, .int se0])), (c0_1, .inl (g.2 0, 32, .inl f0_1)), (c0_2, .inl (g.2 0, 33, .inl f0_2)), (c0_3, .inl (g.2 0, 33, .inl f0_3)), (c0_4, .inl (g.2 0, 16, .inl f0_4)), (c1_, .inr (3, [.int we1, .ref c1_1, .ref c1_2, .ref c1_3, .ref c1_4, .int se1])), (c1_1, .inl (g.2 0, 32, .inl f1_1)), (c1_2, .inl (g.2 0, 33, .inl f1_2)), (c1_3, .inl (g.2 0, 33, .inl f1_3)), (c1_4, .inl (g.2 0, 16, .inl f1_4)), (c2_, .inr (3, [.int we2, .ref c2_1, .ref c2_2, .ref c2_3, .ref c2_4, .int se2])), (c2_1, .inl (g.2 0, 32, .inl f2_1)), (c2_2, .inl (g.2 0, 33, .inl f2_2)), (c2_3, .inl (g.2 0, 33, .inl f2_3)), (c2_4, .inl (g.2 0, 16, .inl f2_4)), (c3_, .inr (3, [.int we3, .ref c3_1, .ref c3_2, .ref c3_3, .ref c3_4, .int se3])), (c3_1, .inl (g.2 0, 32, .inl z30)), (c3_2, .inl (g.2 0, 33, .inl z31)), (c3_3, .inl (g.2 0, 33, .inl z32)), (c3_4, .inl (g.2 0, 16, .inl f3_4)), (aA, .inr (0, [(s1 : Value), (s2 : Value), (s3 : Value), (s4 : Value), .int z34]))] H := hP
              have hD : va_D A [(h0, .inr (8, [.ref aC, aW, aT, aB, aL, aG, aM, .ref aA, aU, aE, aD, .int 0, .int 0])), (aC, .inl (g.2 4, 4, .inr (.inr (.inr (.inr (zS [some c0_, some c1_, some c2_, some c3_])))))), (c0_, .inr (3, [.int we0, .ref c0_1, .ref c0_2, .ref c0_3, .ref c0_4, .int se0])), (c0_1, .inl (g.2 0, 32, .inl f0_1)), (c0_2, .inl (g.2 0, 33, .inl f0_2)), (c0_3, .inl (g.2 0, 33, .inl f0_3)), (c0_4, .inl (g.2 0, 16, .inl f0_4)), (c1_, .inr (3, [.int we1, .ref c1_1, .ref c1_2, .ref c1_3, .ref c1_4, .int se1])), (c1_1, .inl (g.2 0, 32, .inl f1_1)), (c1_2, .inl (g.2 0, 33, .inl f1_2)), (c1_3, .inl (g.2 0, 33, .inl f1_3)), (c1_4, .inl (g.2 0, 16, .inl f1_4)), (c2_, .inr (3, [.int we2, .ref c2_1, .ref c2_2, .ref c2_3, .ref c2_4, .int se2])), (c2_1, .inl (g.2 0, 32, .inl f2_1)), (c2_2, .inl (g.2 0, 33, .inl f2_2)), (c2_3, .inl (g.2 0, 33, .inl f2_3)), (c2_4, .inl (g.2 0, 16, .inl f2_4)), (c3_, .inr (3, [.int we3, .ref c3_1, .ref c3_2, .ref c3_3, .ref c3_4, .int se3])), (c3_1, .inl (g.2 0, 32, .inl z30)), (c3_2, .inl (g.2 0, 33, .inl z31)), (c3_3, .inl (g.2 0, 33, .inl z32)), (c3_4, .inl (g.2 0, 16, .inl f3_4)), (aA, .inr (0, [(s1 : Value), (s2 : Value), (s3 : Value), (s4 : Value), .int z34]))] := hD
              refine lv_iconst (v := 1) hx hb dX8_upper_60 (by decide) ?_
              have hP9 := hP.sub (ws' := []) [] rfl
              have hD9 := hD.sub (ws' := []) [] (by decide) rfl
              refine W.widen (k := 0) (n := 0) (Nat.le_of_ble_eq_true rfl) (Nat.le_of_ble_eq_true rfl) ?_
              exact W.zret (v := 1) hx hb hr rfl (fun t ht hW => ⟨⟨1, (), rfl, by first | exact Or.inl ⟨rfl, by omega⟩ | exact Or.inr ⟨rfl, by omega⟩, ⟨by rw [ht]; exact hP9, hD9⟩⟩, hS.F ht⟩) hS.2.2 dX8_upper_61
          · skip
            have c9 : ¬ (up.toInt = (-1)) := fun q => c9 ((z_eq rfl (by decide : ((-1) : Int32).toInt = (-1))).mpr q)
            refine lv_iload_n hx hb dX8_upper_24 rfl (lv_at hl 3 rfl) ?_
            refine lv_bipush (v := 16) hx hb dX8_upper_25 (by decide) ?_
            refine lv_bipush (v := 31) hx hb dX8_upper_27 (by decide) ?_
            have hPc := hP.sub (ws' := []) [] rfl
            refine zc_i (va_runS (As := [.int up, .int 16, .int 31]) (rest := []) ⟨hx, hb, hml, hown, hg⟩ (c_X8_within l g up (16 : Int32) (31 : Int32) ) (va_cwS 3 hg (z_gS mm_407 mm_408 mm_108 mm_409) rfl rfl rfl (by decide +kernel) ⟨Nat.le_of_ble_eq_true rfl, Nat.le_of_ble_eq_true rfl⟩) (zR.pre [.int up, .int 16, .int 31] hPc hK hN) rfl rfl hl.1 rfl (lv_room (Nat.le_of_ble_eq_true rfl)) dX8_upper_29 ⟨Nat.le_of_ble_eq_true rfl, Nat.le_of_ble_eq_true rfl⟩) (fun r35 hr35 => ?_)
            rcases hr35 with hr35 | hr35
            · skip
              obtain ⟨rfl, h36, h37⟩ := hr35
              have h36 : (16 : Int) ≤ up.toInt := h36
              have h37 : up.toInt ≤ (31 : Int) := h37
              refine lv_if_eq (tgt := 40) hx hb dX8_upper_32 (by decide) (fun c38 => ?_) (fun c38 => ?_)
              · skip
                exact absurd c38 (by decide)
              · skip
                refine lv_iload_n hx hb dX8_upper_35 rfl (lv_at hl 3 rfl) ?_
                refine lv_iload_n hx hb dX8_upper_36 rfl (lv_at hl 2 rfl) ?_
                refine lv_icmp_gt (tgt := 42) hx hb dX8_upper_37 (by decide) (fun c39 => ?_) (fun c39 => ?_)
                · skip
                  have c39 : nd.toInt < up.toInt := (z_lt rfl rfl).mp c39
                  refine lv_aload_n hx hb dX8_upper_42 rfl (lv_at hl 0 rfl) ?_
                  refine va_get (D := g.1) (ci := 8) (v := .ref aC) (C := RX8) (T := TX8) (N := 13) hx hb hg inG8 hown hK hP 0 rfl rfl 0 (by decide) (hg _ mm_360) (fun _ h9 => h9) rfl dX8_upper_43 ?_
                  refine lv_iload_n hx hb dX8_upper_46 rfl (lv_at hl 1 rfl) ?_
                  rcases z_c4 c0 (by omega) (by omega) with hs40 | hs40 | hs40 | hs40
                  · skip
                    have ehs40 : c0.toInt = 0 := by rw [hs40]; rfl
                    have qhs40 : (0 : Int32).toInt = 0 := rfl
                    subst hs40
                    refine va_aldq hx hb hK hP 1 4 rfl rfl (z_in (by decide : (0 : Int32).toInt = 0) (by omega) (by omega)) dX8_upper_47 ?_
                    refine W.eq (g2 := F0 m 48 ls [.ref c0_]) rfl ?_
                    refine lv_iload_n hx hb dX8_upper_48 rfl (lv_at hl 2 rfl) ?_
                    refine lv_iload_n hx hb dX8_upper_49 rfl (lv_at hl 3 rfl) ?_
                    have hPc := hP.sub (ws' := [(c0_, .inr (3, [.int we0, .ref c0_1, .ref c0_2, .ref c0_3, .ref c0_4, .int se0])), (c0_1, .inl (g.2 0, 32, .inl f0_1)), (c0_2, .inl (g.2 0, 33, .inl f0_2)), (c0_3, .inl (g.2 0, 33, .inl f0_3)), (c0_4, .inl (g.2 0, 16, .inl f0_4))]) [2, 3, 4, 5, 6] rfl
                    have hDc := hD.sub (ws' := [(c0_, .inr (3, [.int we0, .ref c0_1, .ref c0_2, .ref c0_3, .ref c0_4, .int se0])), (c0_1, .inl (g.2 0, 32, .inl f0_1)), (c0_2, .inl (g.2 0, 33, .inl f0_2)), (c0_3, .inl (g.2 0, 33, .inl f0_3)), (c0_4, .inl (g.2 0, 16, .inl f0_4))]) [2, 3, 4, 5, 6] (by decide) rfl
                    have hFc := va_free (wc := [(c0_, .inr (3, [.int we0, .ref c0_1, .ref c0_2, .ref c0_3, .ref c0_4, .int se0])), (c0_1, .inl (g.2 0, 32, .inl f0_1)), (c0_2, .inl (g.2 0, 33, .inl f0_2)), (c0_3, .inl (g.2 0, 33, .inl f0_3)), (c0_4, .inl (g.2 0, 16, .inl f0_4))]) hD hS hA [2, 3, 4, 5, 6] rfl
                    refine va_callv (va_runV (As := [.int nd, .int up]) (rest := []) ⟨hx, hb, hml, hown, hg⟩ (c_X3_hang l g _ c0_ c0_1 c0_2 c0_3 c0_4 f0_1 f0_2 f0_3 f0_4 we0 se0 nd up (by first | omega | assumption | decide)) (cwV 2 hg (z_gV mm_410 mm_411 mm_412 mm_115 mm_413) rfl rfl rfl (by decide +kernel) ⟨Nat.le_of_ble_eq_true rfl, Nat.le_of_ble_eq_true rfl⟩) ⟨(zA.pre [.ref c0_, .int nd, .int up] hPc hK hDc hN).1, va_recv hK hPc (ci := 3) (q0 := 0) rfl rfl, (zA.pre [.ref c0_, .int nd, .int up] hPc hK hDc hN).2⟩ rfl rfl hl.1 rfl (lv_room (Nat.le_of_ble_eq_true rfl)) dX8_upper_50 ⟨Nat.le_of_ble_eq_true rfl, Nat.le_of_ble_eq_true rfl⟩) hS (fun q _ h => hFc q h) hFc (fun _ t H1 locs ht hvm hr41 hB hz1 hk1 hS => ?_)
                    obtain ⟨z42, z43, z44, hP1, hD1⟩ := hB
                    rw [ht] at hP1
                    obtain ⟨hP, hD⟩ := va_join (wr := [(h0, .inr (8, [.ref aC, aW, aT, aB, aL, aG, aM, .ref aA, aU, aE, aD, .int 0, .int 0])), (aC, .inl (g.2 4, 4, .inr (.inr (.inr (.inr (zS [some c0_, some c1_, some c2_, some c3_])))))), (c1_, .inr (3, [.int we1, .ref c1_1, .ref c1_2, .ref c1_3, .ref c1_4, .int se1])), (c1_1, .inl (g.2 0, 32, .inl f1_1)), (c1_2, .inl (g.2 0, 33, .inl f1_2)), (c1_3, .inl (g.2 0, 33, .inl f1_3)), (c1_4, .inl (g.2 0, 16, .inl f1_4)), (c2_, .inr (3, [.int we2, .ref c2_1, .ref c2_2, .ref c2_3, .ref c2_4, .int se2])), (c2_1, .inl (g.2 0, 32, .inl f2_1)), (c2_2, .inl (g.2 0, 33, .inl f2_2)), (c2_3, .inl (g.2 0, 33, .inl f2_3)), (c2_4, .inl (g.2 0, 16, .inl f2_4)), (c3_, .inr (3, [.int we3, .ref c3_1, .ref c3_2, .ref c3_3, .ref c3_4, .int se3])), (c3_1, .inl (g.2 0, 32, .inl f3_1)), (c3_2, .inl (g.2 0, 33, .inl f3_2)), (c3_3, .inl (g.2 0, 33, .inl f3_3)), (c3_4, .inl (g.2 0, 16, .inl f3_4)), (aA, .inr (0, [s1, s2, s3, s4, .int tm]))]) (w1 := [(c0_, .inr (3, [.int we0, .ref c0_1, .ref c0_2, .ref c0_3, .ref c0_4, .int se0])), (c0_1, .inl (g.2 0, 32, .inl z42)), (c0_2, .inl (g.2 0, 33, .inl z43)), (c0_3, .inl (g.2 0, 33, .inl z44)), (c0_4, .inl (g.2 0, 16, .inl f0_4))]) hP hD [2, 3, 4, 5, 6] [0, 1, 7, 8, 9, 10, 11, 12, 13, 14, 15, 16, 17, 18, 19, 20, 21, 22] rfl rfl (by decide) (by decide) hk1 hFc hP1 hD1
                    generalize H1 = H at hP hS ⊢
                    refine W.widen (k := 0) (n := 0) (Nat.le_of_ble_eq_true rfl) (Nat.le_of_ble_eq_true rfl) ?_
                    have hP : zP g [(h0, .inr (8, [.ref aC, aW, aT, aB, aL, aG, aM, .ref aA, aU, aE, aD, .int 0, .int 0])), (aC, .inl (g.2 4, 4, .inr (.inr (.inr (.inr (zS [some c0_, some c1_, some c2_, some c3_])))))), (c1_, .inr (3, [.int we1, .ref c1_1, .ref c1_2, .ref c1_3, .ref c1_4, .int se1])), (c1_1, .inl (g.2 0, 32, .inl f1_1)), (c1_2, .inl (g.2 0, 33, .inl f1_2)), (c1_3, .inl (g.2 0, 33, .inl f1_3)), (c1_4, .inl (g.2 0, 16, .inl f1_4)), (c2_, .inr (3, [.int we2, .ref c2_1, .ref c2_2, .ref c2_3, .ref c2_4, .int se2])), (c2_1, .inl (g.2 0, 32, .inl f2_1)), (c2_2, .inl (g.2 0, 33, .inl f2_2)), (c2_3, .inl (g.2 0, 33, .inl f2_3)), (c2_4, .inl (g.2 0, 16, .inl f2_4)), (c3_, .inr (3, [.int we3, .ref c3_1, .ref c3_2, .ref c3_3, .ref c3_4, .int se3])), (c3_1, .inl (g.2 0, 32, .inl f3_1)), (c3_2, .inl (g.2 0, 33, .inl f3_2)), (c3_3, .inl (g.2 0, 33, .inl f3_3)), (c3_4, .inl (g.2 0, 16, .inl f3_4)), (aA, .inr (0, [s1, s2, s3, s4, .int tm])), (c0_, .inr (3, [.int we0, .ref c0_1, .ref c0_2, .ref c0_3, .ref c0_4, .int se0])), (c0_1, .inl (g.2 0, 32, .inl z42)), (c0_2, .inl (g.2 0, 33, .inl z43)), (c0_3, .inl (g.2 0, 33, .inl z44)), (c0_4, .inl (g.2 0, 16, .inl f0_4))] H := hP
                    have hD : va_D A [(h0, .inr (8, [.ref aC, aW, aT, aB, aL, aG, aM, .ref aA, aU, aE, aD, .int 0, .int 0])), (aC, .inl (g.2 4, 4, .inr (.inr (.inr (.inr (zS [some c0_, some c1_, some c2_, some c3_])))))), (c1_, .inr (3, [.int we1, .ref c1_1, .ref c1_2, .ref c1_3, .ref c1_4, .int se1])), (c1_1, .inl (g.2 0, 32, .inl f1_1)), (c1_2, .inl (g.2 0, 33, .inl f1_2)), (c1_3, .inl (g.2 0, 33, .inl f1_3)), (c1_4, .inl (g.2 0, 16, .inl f1_4)), (c2_, .inr (3, [.int we2, .ref c2_1, .ref c2_2, .ref c2_3, .ref c2_4, .int se2])), (c2_1, .inl (g.2 0, 32, .inl f2_1)), (c2_2, .inl (g.2 0, 33, .inl f2_2)), (c2_3, .inl (g.2 0, 33, .inl f2_3)), (c2_4, .inl (g.2 0, 16, .inl f2_4)), (c3_, .inr (3, [.int we3, .ref c3_1, .ref c3_2, .ref c3_3, .ref c3_4, .int se3])), (c3_1, .inl (g.2 0, 32, .inl f3_1)), (c3_2, .inl (g.2 0, 33, .inl f3_2)), (c3_3, .inl (g.2 0, 33, .inl f3_3)), (c3_4, .inl (g.2 0, 16, .inl f3_4)), (aA, .inr (0, [s1, s2, s3, s4, .int tm])), (c0_, .inr (3, [.int we0, .ref c0_1, .ref c0_2, .ref c0_3, .ref c0_4, .int se0])), (c0_1, .inl (g.2 0, 32, .inl z42)), (c0_2, .inl (g.2 0, 33, .inl z43)), (c0_3, .inl (g.2 0, 33, .inl z44)), (c0_4, .inl (g.2 0, 16, .inl f0_4))] := hD
                    refine lv_aload_n hx hb dX8_upper_53 rfl (lv_at hl 0 rfl) ?_
                    refine va_get (D := g.1) (ci := 8) (v := .ref aA) (C := RX8) (T := TX8) (N := 13) hx hb hg inG8 hown hK hP 0 rfl rfl 7 (by decide) (hg _ mm_367) (fun _ h9 => h9) rfl dX8_upper_54 ?_
                    have hPc := hP.sub (ws' := [(aA, .inr (0, [s1, s2, s3, s4, .int tm]))]) [17] rfl
                    have hDc := hD.sub (ws' := [(aA, .inr (0, [s1, s2, s3, s4, .int tm]))]) [17] (by decide) rfl
                    have hFc := va_free (wc := [(aA, .inr (0, [s1, s2, s3, s4, .int tm]))]) hD hS hA [17] rfl
                    refine va_callv (va_runV (As := []) (rest := []) ⟨hx, hb, hml, hown, hg⟩ (c_X0_forget l g _ aA (s1 : Value) (s2 : Value) (s3 : Value) (s4 : Value) tm ) (cwV 0 hg (z_gV mm_419 mm_420 mm_421 mm_112 mm_422) rfl rfl rfl (by decide +kernel) ⟨Nat.le_of_ble_eq_true rfl, Nat.le_of_ble_eq_true rfl⟩) ⟨(zA.pre [.ref aA] hPc hK hDc hN).1, va_recv hK hPc (ci := 0) (q0 := 0) rfl rfl, (zA.pre [.ref aA] hPc hK hDc hN).2⟩ rfl rfl hl.1 rfl (lv_room (Nat.le_of_ble_eq_true rfl)) dX8_upper_57 ⟨Nat.le_of_ble_eq_true rfl, Nat.le_of_ble_eq_true rfl⟩) hS (fun q _ h => hFc q h) hFc (fun _ t H1 locs ht hvm hr45 hB hz1 hk1 hS => ?_)
                    obtain ⟨z46, hP1, hD1⟩ := hB
                    rw [ht] at hP1
                    obtain ⟨hP, hD⟩ := va_join (wr := [(h0, .inr (8, [.ref aC, aW, aT, aB, aL, aG, aM, .ref aA, aU, aE, aD, .int 0, .int 0])), (aC, .inl (g.2 4, 4, .inr (.inr (.inr (.inr (zS [some c0_, some c1_, some c2_, some c3_])))))), (c1_, .inr (3, [.int we1, .ref c1_1, .ref c1_2, .ref c1_3, .ref c1_4, .int se1])), (c1_1, .inl (g.2 0, 32, .inl f1_1)), (c1_2, .inl (g.2 0, 33, .inl f1_2)), (c1_3, .inl (g.2 0, 33, .inl f1_3)), (c1_4, .inl (g.2 0, 16, .inl f1_4)), (c2_, .inr (3, [.int we2, .ref c2_1, .ref c2_2, .ref c2_3, .ref c2_4, .int se2])), (c2_1, .inl (g.2 0, 32, .inl f2_1)), (c2_2, .inl (g.2 0, 33, .inl f2_2)), (c2_3, .inl (g.2 0, 33, .inl f2_3)), (c2_4, .inl (g.2 0, 16, .inl f2_4)), (c3_, .inr (3, [.int we3, .ref c3_1, .ref c3_2, .ref c3_3, .ref c3_4, .int se3])), (c3_1, .inl (g.2 0, 32, .inl f3_1)), (c3_2, .inl (g.2 0, 33, .inl f3_2)), (c3_3, .inl (g.2 0, 33, .inl f3_3)), (c3_4, .inl (g.2 0, 16, .inl f3_4)), (c0_, .inr (3, [.int we0, .ref c0_1, .ref c0_2, .ref c0_3, .ref c0_4, .int se0])), (c0_1, .inl (g.2 0, 32, .inl z42)), (c0_2, .inl (g.2 0, 33, .inl z43)), (c0_3, .inl (g.2 0, 33, .inl z44)), (c0_4, .inl (g.2 0, 16, .inl f0_4))]) (w1 := [(aA, .inr (0, [(s1 : Value), (s2 : Value), (s3 : Value), (s4 : Value), .int z46]))]) hP hD [17] [0, 1, 2, 3, 4, 5, 6, 7, 8, 9, 10, 11, 12, 13, 14, 15, 16, 18, 19, 20, 21, 22] rfl rfl (by decide) (by decide) hk1 hFc hP1 hD1
                    generalize H1 = H at hP hS ⊢
                    refine W.widen (k := 0) (n := 0) (Nat.le_of_ble_eq_true rfl) (Nat.le_of_ble_eq_true rfl) ?_
                    have hP : zP g [(h0, .inr (8, [.ref aC, aW, aT, aB, aL, aG, aM, .ref aA, aU, aE, aD, .int 0, .int 0])), (aC, .inl (g.2 4, 4, .inr (.inr (.inr (.inr (zS [some c0_, some c1_, some c2_, some c3_])))))), (c1_, .inr (3, [.int we1, .ref c1_1, .ref c1_2, .ref c1_3, .ref c1_4, .int se1])), (c1_1, .inl (g.2 0, 32, .inl f1_1)), (c1_2, .inl (g.2 0, 33, .inl f1_2)), (c1_3, .inl (g.2 0, 33, .inl f1_3)), (c1_4, .inl (g.2 0, 16, .inl f1_4)), (c2_, .inr (3, [.int we2, .ref c2_1, .ref c2_2, .ref c2_3, .ref c2_4, .int se2])), (c2_1, .inl (g.2 0, 32, .inl f2_1)), (c2_2, .inl (g.2 0, 33, .inl f2_2)), (c2_3, .inl (g.2 0, 33, .inl f2_3)), (c2_4, .inl (g.2 0, 16, .inl f2_4)), (c3_, .inr (3, [.int we3, .ref c3_1, .ref c3_2, .ref c3_3, .ref c3_4, .int se3])), (c3_1, .inl (g.2 0, 32, .inl f3_1)), (c3_2, .inl (g.2 0, 33, .inl f3_2)), (c3_3, .inl (g.2 0, 33, .inl f3_3)), (c3_4, .inl (g.2 0, 16, .inl f3_4)), (c0_, .inr (3, [.int we0, .ref c0_1, .ref c0_2, .ref c0_3, .ref c0_4, .int se0])), (c0_1, .inl (g.2 0, 32, .inl z42)), (c0_2, .inl (g.2 0, 33, .inl z43)), (c0_3, .inl (g.2 0, 33, .inl z44)), (c0_4, .inl (g.2 0, 16, .inl f0_4)), (aA, .inr (0, [(s1 : Value), (s2 : Value), (s3 : Value), (s4 : Value), .int z46]))] H := hP
                    have hD : va_D A [(h0, .inr (8, [.ref aC, aW, aT, aB, aL, aG, aM, .ref aA, aU, aE, aD, .int 0, .int 0])), (aC, .inl (g.2 4, 4, .inr (.inr (.inr (.inr (zS [some c0_, some c1_, some c2_, some c3_])))))), (c1_, .inr (3, [.int we1, .ref c1_1, .ref c1_2, .ref c1_3, .ref c1_4, .int se1])), (c1_1, .inl (g.2 0, 32, .inl f1_1)), (c1_2, .inl (g.2 0, 33, .inl f1_2)), (c1_3, .inl (g.2 0, 33, .inl f1_3)), (c1_4, .inl (g.2 0, 16, .inl f1_4)), (c2_, .inr (3, [.int we2, .ref c2_1, .ref c2_2, .ref c2_3, .ref c2_4, .int se2])), (c2_1, .inl (g.2 0, 32, .inl f2_1)), (c2_2, .inl (g.2 0, 33, .inl f2_2)), (c2_3, .inl (g.2 0, 33, .inl f2_3)), (c2_4, .inl (g.2 0, 16, .inl f2_4)), (c3_, .inr (3, [.int we3, .ref c3_1, .ref c3_2, .ref c3_3, .ref c3_4, .int se3])), (c3_1, .inl (g.2 0, 32, .inl f3_1)), (c3_2, .inl (g.2 0, 33, .inl f3_2)), (c3_3, .inl (g.2 0, 33, .inl f3_3)), (c3_4, .inl (g.2 0, 16, .inl f3_4)), (c0_, .inr (3, [.int we0, .ref c0_1, .ref c0_2, .ref c0_3, .ref c0_4, .int se0])), (c0_1, .inl (g.2 0, 32, .inl z42)), (c0_2, .inl (g.2 0, 33, .inl z43)), (c0_3, .inl (g.2 0, 33, .inl z44)), (c0_4, .inl (g.2 0, 16, .inl f0_4)), (aA, .inr (0, [(s1 : Value), (s2 : Value), (s3 : Value), (s4 : Value), .int z46]))] := hD
                    refine lv_iconst (v := 1) hx hb dX8_upper_60 (by decide) ?_
                    have hP9 := hP.sub (ws' := []) [] rfl
                    have hD9 := hD.sub (ws' := []) [] (by decide) rfl
                    refine W.widen (k := 0) (n := 0) (Nat.le_of_ble_eq_true rfl) (Nat.le_of_ble_eq_true rfl) ?_
                    exact W.zret (v := 1) hx hb hr rfl (fun t ht hW => ⟨⟨1, (), rfl, by first | exact Or.inl ⟨rfl, by omega⟩ | exact Or.inr ⟨rfl, by omega⟩, ⟨by rw [ht]; exact hP9, hD9⟩⟩, hS.F ht⟩) hS.2.2 dX8_upper_61
                  · skip
                    have ehs40 : c0.toInt = 1 := by rw [hs40]; rfl
                    have qhs40 : (1 : Int32).toInt = 1 := rfl
                    subst hs40
                    refine va_aldq hx hb hK hP 1 4 rfl rfl (z_in (by decide : (1 : Int32).toInt = 1) (by omega) (by omega)) dX8_upper_47 ?_
                    refine W.eq (g2 := F0 m 48 ls [.ref c1_]) rfl ?_
                    refine lv_iload_n hx hb dX8_upper_48 rfl (lv_at hl 2 rfl) ?_
                    refine lv_iload_n hx hb dX8_upper_49 rfl (lv_at hl 3 rfl) ?_
                    have hPc := hP.sub (ws' := [(c1_, .inr (3, [.int we1, .ref c1_1, .ref c1_2, .ref c1_3, .ref c1_4, .int se1])), (c1_1, .inl (g.2 0, 32, .inl f1_1)), (c1_2, .inl (g.2 0, 33, .inl f1_2)), (c1_3, .inl (g.2 0, 33, .inl f1_3)), (c1_4, .inl (g.2 0, 16, .inl f1_4))]) [7, 8, 9, 10, 11] rfl
                    have hDc := hD.sub (ws' := [(c1_, .inr (3, [.int we1, .ref c1_1, .ref c1_2, .ref c1_3, .ref c1_4, .int se1])), (c1_1, .inl (g.2 0, 32, .inl f1_1)), (c1_2, .inl (g.2 0, 33, .inl f1_2)), (c1_3, .inl (g.2 0, 33, .inl f1_3)), (c1_4, .inl (g.2 0, 16, .inl f1_4))]) [7, 8, 9, 10, 11] (by decide) rfl
                    have hFc := va_free (wc := [(c1_, .inr (3, [.int we1, .ref c1_1, .ref c1_2, .ref c1_3, .ref c1_4, .int se1])), (c1_1, .inl (g.2 0, 32, .inl f1_1)), (c1_2, .inl (g.2 0, 33, .inl f1_2)), (c1_3, .inl (g.2 0, 33, .inl f1_3)), (c1_4, .inl (g.2 0, 16, .inl f1_4))]) hD hS hA [7, 8, 9, 10, 11] rfl
                    refine va_callv (va_runV (As := [.int nd, .int up]) (rest := []) ⟨hx, hb, hml, hown, hg⟩ (c_X3_hang l g _ c1_ c1_1 c1_2 c1_3 c1_4 f1_1 f1_2 f1_3 f1_4 we1 se1 nd up (by first | omega | assumption | decide)) (cwV 2 hg (z_gV mm_410 mm_411 mm_412 mm_115 mm_413) rfl rfl rfl (by decide +kernel) ⟨Nat.le_of_ble_eq_true rfl, Nat.le_of_ble_eq_true rfl⟩) ⟨(zA.pre [.ref c1_, .int nd, .int up] hPc hK hDc hN).1, va_recv hK hPc (ci := 3) (q0 := 0) rfl rfl, (zA.pre [.ref c1_, .int nd, .int up] hPc hK hDc hN).2⟩ rfl rfl hl.1 rfl (lv_room (Nat.le_of_ble_eq_true rfl)) dX8_upper_50 ⟨Nat.le_of_ble_eq_true rfl, Nat.le_of_ble_eq_true rfl⟩) hS (fun q _ h => hFc q h) hFc (fun _ t H1 locs ht hvm hr47 hB hz1 hk1 hS => ?_)
                    obtain ⟨z48, z49, z50, hP1, hD1⟩ := hB
                    rw [ht] at hP1
                    obtain ⟨hP, hD⟩ := va_join (wr := [(h0, .inr (8, [.ref aC, aW, aT, aB, aL, aG, aM, .ref aA, aU, aE, aD, .int 0, .int 0])), (aC, .inl (g.2 4, 4, .inr (.inr (.inr (.inr (zS [some c0_, some c1_, some c2_, some c3_])))))), (c0_, .inr (3, [.int we0, .ref c0_1, .ref c0_2, .ref c0_3, .ref c0_4, .int se0])), (c0_1, .inl (g.2 0, 32, .inl f0_1)), (c0_2, .inl (g.2 0, 33, .inl f0_2)), (c0_3, .inl (g.2 0, 33, .inl f0_3)), (c0_4, .inl (g.2 0, 16, .inl f0_4)), (c2_, .inr (3, [.int we2, .ref c2_1, .ref c2_2, .ref c2_3, .ref c2_4, .int se2])), (c2_1, .inl (g.2 0, 32, .inl f2_1)), (c2_2, .inl (g.2 0, 33, .inl f2_2)), (c2_3, .inl (g.2 0, 33, .inl f2_3)), (c2_4, .inl (g.2 0, 16, .inl f2_4)), (c3_, .inr (3, [.int we3, .ref c3_1, .ref c3_2, .ref c3_3, .ref c3_4, .int se3])), (c3_1, .inl (g.2 0, 32, .inl f3_1)), (c3_2, .inl (g.2 0, 33, .inl f3_2)), (c3_3, .inl (g.2 0, 33, .inl f3_3)), (c3_4, .inl (g.2 0, 16, .inl f3_4)), (aA, .inr (0, [s1, s2, s3, s4, .int tm]))]) (w1 := [(c1_, .inr (3, [.int we1, .ref c1_1, .ref c1_2, .ref c1_3, .ref c1_4, .int se1])), (c1_1, .inl (g.2 0, 32, .inl z48)), (c1_2, .inl (g.2 0, 33, .inl z49)), (c1_3, .inl (g.2 0, 33, .inl z50)), (c1_4, .inl (g.2 0, 16, .inl f1_4))]) hP hD [7, 8, 9, 10, 11] [0, 1, 2, 3, 4, 5, 6, 12, 13, 14, 15, 16, 17, 18, 19, 20, 21, 22] rfl rfl (by decide) (by decide) hk1 hFc hP1 hD1
                    generalize H1 = H at hP hS ⊢
                    refine W.widen (k := 0) (n := 0) (Nat.le_of_ble_eq_true rfl) (Nat.le_of_ble_eq_true rfl) ?_
                    have hP : zP g [(h0, .inr (8, [.ref aC, aW, aT, aB, aL, aG, aM, .ref aA, aU, aE, aD, .int 0, .int 0])), (aC, .inl (g.2 4, 4, .inr (.inr (.inr (.inr (zS [some c0_, some c1_, some c2_, some c3_])))))), (c0_, .inr (3, [.int we0, .ref c0_1, .ref c0_2, .ref c0_3, .ref c0_4, .int se0])), (c0_1, .inl (g.2 0, 32, .inl f0_1)), (c0_2, .inl (g.2 0, 33, .inl f0_2)), (c0_3, .inl (g.2 0, 33, .inl f0_3)), (c0_4, .inl (g.2 0, 16, .inl f0_4)), (c2_, .inr (3, [.int we2, .ref c2_1, .ref c2_2, .ref c2_3, .ref c2_4, .int se2])), (c2_1, .inl (g.2 0, 32, .inl f2_1)), (c2_2, .inl (g.2 0, 33, .inl f2_2)), (c2_3, .inl (g.2 0, 33, .inl f2_3)), (c2_4, .inl (g.2 0, 16, .inl f2_4)), (c3_, .inr (3, [.int we3, .ref c3_1, .ref c3_2, .ref c3_3, .ref c3_4, .int se3])), (c3_1, .inl (g.2 0, 32, .inl f3_1)), (c3_2, .inl (g.2 0, 33, .inl f3_2)), (c3_3, .inl (g.2 0, 33, .inl f3_3)), (c3_4, .inl (g.2 0, 16, .inl f3_4)), (aA, .inr (0, [s1, s2, s3, s4, .int tm])), (c1_, .inr (3, [.int we1, .ref c1_1, .ref c1_2, .ref c1_3, .ref c1_4, .int se1])), (c1_1, .inl (g.2 0, 32, .inl z48)), (c1_2, .inl (g.2 0, 33, .inl z49)), (c1_3, .inl (g.2 0, 33, .inl z50)), (c1_4, .inl (g.2 0, 16, .inl f1_4))] H := hP
                    have hD : va_D A [(h0, .inr (8, [.ref aC, aW, aT, aB, aL, aG, aM, .ref aA, aU, aE, aD, .int 0, .int 0])), (aC, .inl (g.2 4, 4, .inr (.inr (.inr (.inr (zS [some c0_, some c1_, some c2_, some c3_])))))), (c0_, .inr (3, [.int we0, .ref c0_1, .ref c0_2, .ref c0_3, .ref c0_4, .int se0])), (c0_1, .inl (g.2 0, 32, .inl f0_1)), (c0_2, .inl (g.2 0, 33, .inl f0_2)), (c0_3, .inl (g.2 0, 33, .inl f0_3)), (c0_4, .inl (g.2 0, 16, .inl f0_4)), (c2_, .inr (3, [.int we2, .ref c2_1, .ref c2_2, .ref c2_3, .ref c2_4, .int se2])), (c2_1, .inl (g.2 0, 32, .inl f2_1)), (c2_2, .inl (g.2 0, 33, .inl f2_2)), (c2_3, .inl (g.2 0, 33, .inl f2_3)), (c2_4, .inl (g.2 0, 16, .inl f2_4)), (c3_, .inr (3, [.int we3, .ref c3_1, .ref c3_2, .ref c3_3, .ref c3_4, .int se3])), (c3_1, .inl (g.2 0, 32, .inl f3_1)), (c3_2, .inl (g.2 0, 33, .inl f3_2)), (c3_3, .inl (g.2 0, 33, .inl f3_3)), (c3_4, .inl (g.2 0, 16, .inl f3_4)), (aA, .inr (0, [s1, s2, s3, s4, .int tm])), (c1_, .inr (3, [.int we1, .ref c1_1, .ref c1_2, .ref c1_3, .ref c1_4, .int se1])), (c1_1, .inl (g.2 0, 32, .inl z48)), (c1_2, .inl (g.2 0, 33, .inl z49)), (c1_3, .inl (g.2 0, 33, .inl z50)), (c1_4, .inl (g.2 0, 16, .inl f1_4))] := hD
                    refine lv_aload_n hx hb dX8_upper_53 rfl (lv_at hl 0 rfl) ?_
                    refine va_get (D := g.1) (ci := 8) (v := .ref aA) (C := RX8) (T := TX8) (N := 13) hx hb hg inG8 hown hK hP 0 rfl rfl 7 (by decide) (hg _ mm_367) (fun _ h9 => h9) rfl dX8_upper_54 ?_
                    have hPc := hP.sub (ws' := [(aA, .inr (0, [s1, s2, s3, s4, .int tm]))]) [17] rfl
                    have hDc := hD.sub (ws' := [(aA, .inr (0, [s1, s2, s3, s4, .int tm]))]) [17] (by decide) rfl
                    have hFc := va_free (wc := [(aA, .inr (0, [s1, s2, s3, s4, .int tm]))]) hD hS hA [17] rfl
                    refine va_callv (va_runV (As := []) (rest := []) ⟨hx, hb, hml, hown, hg⟩ (c_X0_forget l g _ aA (s1 : Value) (s2 : Value) (s3 : Value) (s4 : Value) tm ) (cwV 0 hg (z_gV mm_419 mm_420 mm_421 mm_112 mm_422) rfl rfl rfl (by decide +kernel) ⟨Nat.le_of_ble_eq_true rfl, Nat.le_of_ble_eq_true rfl⟩) ⟨(zA.pre [.ref aA] hPc hK hDc hN).1, va_recv hK hPc (ci := 0) (q0 := 0) rfl rfl, (zA.pre [.ref aA] hPc hK hDc hN).2⟩ rfl rfl hl.1 rfl (lv_room (Nat.le_of_ble_eq_true rfl)) dX8_upper_57 ⟨Nat.le_of_ble_eq_true rfl, Nat.le_of_ble_eq_true rfl⟩) hS (fun q _ h => hFc q h) hFc (fun _ t H1 locs ht hvm hr51 hB hz1 hk1 hS => ?_)
                    obtain ⟨z52, hP1, hD1⟩ := hB
                    rw [ht] at hP1
                    obtain ⟨hP, hD⟩ := va_join (wr := [(h0, .inr (8, [.ref aC, aW, aT, aB, aL, aG, aM, .ref aA, aU, aE, aD, .int 0, .int 0])), (aC, .inl (g.2 4, 4, .inr (.inr (.inr (.inr (zS [some c0_, some c1_, some c2_, some c3_])))))), (c0_, .inr (3, [.int we0, .ref c0_1, .ref c0_2, .ref c0_3, .ref c0_4, .int se0])), (c0_1, .inl (g.2 0, 32, .inl f0_1)), (c0_2, .inl (g.2 0, 33, .inl f0_2)), (c0_3, .inl (g.2 0, 33, .inl f0_3)), (c0_4, .inl (g.2 0, 16, .inl f0_4)), (c2_, .inr (3, [.int we2, .ref c2_1, .ref c2_2, .ref c2_3, .ref c2_4, .int se2])), (c2_1, .inl (g.2 0, 32, .inl f2_1)), (c2_2, .inl (g.2 0, 33, .inl f2_2)), (c2_3, .inl (g.2 0, 33, .inl f2_3)), (c2_4, .inl (g.2 0, 16, .inl f2_4)), (c3_, .inr (3, [.int we3, .ref c3_1, .ref c3_2, .ref c3_3, .ref c3_4, .int se3])), (c3_1, .inl (g.2 0, 32, .inl f3_1)), (c3_2, .inl (g.2 0, 33, .inl f3_2)), (c3_3, .inl (g.2 0, 33, .inl f3_3)), (c3_4, .inl (g.2 0, 16, .inl f3_4)), (c1_, .inr (3, [.int we1, .ref c1_1, .ref c1_2, .ref c1_3, .ref c1_4, .int se1])), (c1_1, .inl (g.2 0, 32, .inl z48)), (c1_2, .inl (g.2 0, 33, .inl z49)), (c1_3, .inl (g.2 0, 33, .inl z50)), (c1_4, .inl (g.2 0, 16, .inl f1_4))]) (w1 := [(aA, .inr (0, [(s1 : Value), (s2 : Value), (s3 : Value), (s4 : Value), .int z52]))]) hP hD [17] [0, 1, 2, 3, 4, 5, 6, 7, 8, 9, 10, 11, 12, 13, 14, 15, 16, 18, 19, 20, 21, 22] rfl rfl (by decide) (by decide) hk1 hFc hP1 hD1
                    generalize H1 = H at hP hS ⊢
                    refine W.widen (k := 0) (n := 0) (Nat.le_of_ble_eq_true rfl) (Nat.le_of_ble_eq_true rfl) ?_
                    have hP : zP g [(h0, .inr (8, [.ref aC, aW, aT, aB, aL, aG, aM, .ref aA, aU, aE, aD, .int 0, .int 0])), (aC, .inl (g.2 4, 4, .inr (.inr (.inr (.inr (zS [some c0_, some c1_, some c2_, some c3_])))))), (c0_, .inr (3, [.int we0, .ref c0_1, .ref c0_2, .ref c0_3, .ref c0_4, .int se0])), (c0_1, .inl (g.2 0, 32, .inl f0_1)), (c0_2, .inl (g.2 0, 33, .inl f0_2)), (c0_3, .inl (g.2 0, 33, .inl f0_3)), (c0_4, .inl (g.2 0, 16, .inl f0_4)), (c2_, .inr (3, [.int we2, .ref c2_1, .ref c2_2, .ref c2_3, .ref c2_4, .int se2])), (c2_1, .inl (g.2 0, 32, .inl f2_1)), (c2_2, .inl (g.2 0, 33, .inl f2_2)), (c2_3, .inl (g.2 0, 33, .inl f2_3)), (c2_4, .inl (g.2 0, 16, .inl f2_4)), (c3_, .inr (3, [.int we3, .ref c3_1, .ref c3_2, .ref c3_3, .ref c3_4, .int se3])), (c3_1, .inl (g.2 0, 32, .inl f3_1)), (c3_2, .inl (g.2 0, 33, .inl f3_2)), (c3_3, .inl (g.2 0, 33, .inl f3_3)), (c3_4, .inl (g.2 0, 16, .inl f3_4)), (c1_, .inr (3, [.int we1, .ref c1_1, .ref c1_2, .ref c1_3, .ref c1_4, .int se1])), (c1_1, .inl (g.2 0, 32, .inl z48)), (c1_2, .inl (g.2 0, 33, .inl z49)), (c1_3, .inl (g.2 0, 33, .inl z50)), (c1_4, .inl (g.2 0, 16, .inl f1_4)), (aA, .inr (0, [(s1 : Value), (s2 : Value), (s3 : Value), (s4 : Value), .int z52]))] H := hP
                    have hD : va_D A [(h0, .inr (8, [.ref aC, aW, aT, aB, aL, aG, aM, .ref aA, aU, aE, aD, .int 0, .int 0])), (aC, .inl (g.2 4, 4, .inr (.inr (.inr (.inr (zS [some c0_, some c1_, some c2_, some c3_])))))), (c0_, .inr (3, [.int we0, .ref c0_1, .ref c0_2, .ref c0_3, .ref c0_4, .int se0])), (c0_1, .inl (g.2 0, 32, .inl f0_1)), (c0_2, .inl (g.2 0, 33, .inl f0_2)), (c0_3, .inl (g.2 0, 33, .inl f0_3)), (c0_4, .inl (g.2 0, 16, .inl f0_4)), (c2_, .inr (3, [.int we2, .ref c2_1, .ref c2_2, .ref c2_3, .ref c2_4, .int se2])), (c2_1, .inl (g.2 0, 32, .inl f2_1)), (c2_2, .inl (g.2 0, 33, .inl f2_2)), (c2_3, .inl (g.2 0, 33, .inl f2_3)), (c2_4, .inl (g.2 0, 16, .inl f2_4)), (c3_, .inr (3, [.int we3, .ref c3_1, .ref c3_2, .ref c3_3, .ref c3_4, .int se3])), (c3_1, .inl (g.2 0, 32, .inl f3_1)), (c3_2, .inl (g.2 0, 33, .inl f3_2)), (c3_3, .inl (g.2 0, 33, .inl f3_3)), (c3_4, .inl (g.2 0, 16, .inl f3_4)), (c1_, .inr (3, [.int we1, .ref c1_1, .ref c1_2, .ref c1_3, .ref c1_4, .int se1])), (c1_1, .inl (g.2 0, 32, .inl z48)), (c1_2, .inl (g.2 0, 33, .inl z49)), (c1_3, .inl (g.2 0, 33, .inl z50)), (c1_4, .inl (g.2 0, 16, .inl f1_4)), (aA, .inr (0, [(s1 : Value), (s2 : Value), (s3 : Value), (s4 : Value), .int z52]))] := hD
                    refine lv_iconst (v := 1) hx hb dX8_upper_60 (by decide) ?_
                    have hP9 := hP.sub (ws' := []) [] rfl
                    have hD9 := hD.sub (ws' := []) [] (by decide) rfl
                    refine W.widen (k := 0) (n := 0) (Nat.le_of_ble_eq_true rfl) (Nat.le_of_ble_eq_true rfl) ?_
                    exact W.zret (v := 1) hx hb hr rfl (fun t ht hW => ⟨⟨1, (), rfl, by first | exact Or.inl ⟨rfl, by omega⟩ | exact Or.inr ⟨rfl, by omega⟩, ⟨by rw [ht]; exact hP9, hD9⟩⟩, hS.F ht⟩) hS.2.2 dX8_upper_61
                  · skip
                    have ehs40 : c0.toInt = 2 := by rw [hs40]; rfl
                    have qhs40 : (2 : Int32).toInt = 2 := rfl
                    subst hs40
                    refine va_aldq hx hb hK hP 1 4 rfl rfl (z_in (by decide : (2 : Int32).toInt = 2) (by omega) (by omega)) dX8_upper_47 ?_
                    refine W.eq (g2 := F0 m 48 ls [.ref c2_]) rfl ?_
                    refine lv_iload_n hx hb dX8_upper_48 rfl (lv_at hl 2 rfl) ?_
                    refine lv_iload_n hx hb dX8_upper_49 rfl (lv_at hl 3 rfl) ?_
                    have hPc := hP.sub (ws' := [(c2_, .inr (3, [.int we2, .ref c2_1, .ref c2_2, .ref c2_3, .ref c2_4, .int se2])), (c2_1, .inl (g.2 0, 32, .inl f2_1)), (c2_2, .inl (g.2 0, 33, .inl f2_2)), (c2_3, .inl (g.2 0, 33, .inl f2_3)), (c2_4, .inl (g.2 0, 16, .inl f2_4))]) [12, 13, 14, 15, 16] rfl
                    have hDc := hD.sub (ws' := [(c2_, .inr (3, [.int we2, .ref c2_1, .ref c2_2, .ref c2_3, .ref c2_4, .int se2])), (c2_1, .inl (g.2 0, 32, .inl f2_1)), (c2_2, .inl (g.2 0, 33, .inl f2_2)), (c2_3, .inl (g.2 0, 33, .inl f2_3)), (c2_4, .inl (g.2 0, 16, .inl f2_4))]) [12, 13, 14, 15, 16] (by decide) rfl
                    have hFc := va_free (wc := [(c2_, .inr (3, [.int we2, .ref c2_1, .ref c2_2, .ref c2_3, .ref c2_4, .int se2])), (c2_1, .inl (g.2 0, 32, .inl f2_1)), (c2_2, .inl (g.2 0, 33, .inl f2_2)), (c2_3, .inl (g.2 0, 33, .inl f2_3)), (c2_4, .inl (g.2 0, 16, .inl f2_4))]) hD hS hA [12, 13, 14, 15, 16] rfl
                    refine va_callv (va_runV (As := [.int nd, .int up]) (rest := []) ⟨hx, hb, hml, hown, hg⟩ (c_X3_hang l g _ c2_ c2_1 c2_2 c2_3 c2_4 f2_1 f2_2 f2_3 f2_4 we2 se2 nd up (by first | omega | assumption | decide)) (cwV 2 hg (z_gV mm_410 mm_411 mm_412 mm_115 mm_413) rfl rfl rfl (by decide +kernel) ⟨Nat.le_of_ble_eq_true rfl, Nat.le_of_ble_eq_true rfl⟩) ⟨(zA.pre [.ref c2_, .int nd, .int up] hPc hK hDc hN).1, va_recv hK hPc (ci := 3) (q0 := 0) rfl rfl, (zA.pre [.ref c2_, .int nd, .int up] hPc hK hDc hN).2⟩ rfl rfl hl.1 rfl (lv_room (Nat.le_of_ble_eq_true rfl)) dX8_upper_50 ⟨Nat.le_of_ble_eq_true rfl, Nat.le_of_ble_eq_true rfl⟩) hS (fun q _ h => hFc q h) hFc (fun _ t H1 locs ht hvm hr53 hB hz1 hk1 hS => ?_)
                    obtain ⟨z54, z55, z56, hP1, hD1⟩ := hB
                    rw [ht] at hP1
                    obtain ⟨hP, hD⟩ := va_join (wr := [(h0, .inr (8, [.ref aC, aW, aT, aB, aL, aG, aM, .ref aA, aU, aE, aD, .int 0, .int 0])), (aC, .inl (g.2 4, 4, .inr (.inr (.inr (.inr (zS [some c0_, some c1_, some c2_, some c3_])))))), (c0_, .inr (3, [.int we0, .ref c0_1, .ref c0_2, .ref c0_3, .ref c0_4, .int se0])), (c0_1, .inl (g.2 0, 32, .inl f0_1)), (c0_2, .inl (g.2 0, 33, .inl f0_2)), (c0_3, .inl (g.2 0, 33, .inl f0_3)), (c0_4, .inl (g.2 0, 16, .inl f0_4)), (c1_, .inr (3, [.int we1, .ref c1_1, .ref c1_2, .ref c1_3, .ref c1_4, .int se1])), (c1_1, .inl (g.2 0, 32, .inl f1_1)), (c1_2, .inl (g.2 0, 33, .inl f1_2)), (c1_3, .inl (g.2 0, 33, .inl f1_3)), (c1_4, .inl (g.2 0, 16, .inl f1_4)), (c3_, .inr (3, [.int we3, .ref c3_1, .ref c3_2, .ref c3_3, .ref c3_4, .int se3])), (c3_1, .inl (g.2 0, 32, .inl f3_1)), (c3_2, .inl (g.2 0, 33, .inl f3_2)), (c3_3, .inl (g.2 0, 33, .inl f3_3)), (c3_4, .inl (g.2 0, 16, .inl f3_4)), (aA, .inr (0, [s1, s2, s3, s4, .int tm]))]) (w1 := [(c2_, .inr (3, [.int we2, .ref c2_1, .ref c2_2, .ref c2_3, .ref c2_4, .int se2])), (c2_1, .inl (g.2 0, 32, .inl z54)), (c2_2, .inl (g.2 0, 33, .inl z55)), (c2_3, .inl (g.2 0, 33, .inl z56)), (c2_4, .inl (g.2 0, 16, .inl f2_4))]) hP hD [12, 13, 14, 15, 16] [0, 1, 2, 3, 4, 5, 6, 7, 8, 9, 10, 11, 17, 18, 19, 20, 21, 22] rfl rfl (by decide) (by decide) hk1 hFc hP1 hD1
                    generalize H1 = H at hP hS ⊢
                    refine W.widen (k := 0) (n := 0) (Nat.le_of_ble_eq_true rfl) (Nat.le_of_ble_eq_true rfl) ?_
                    have hP : zP g [(h0, .inr (8, [.ref aC, aW, aT, aB, aL, aG, aM, .ref aA, aU, aE, aD, .int 0, .int 0])), (aC, .inl (g.2 4, 4, .inr (.inr (.inr (.inr (zS [some c0_, some c1_, some c2_, some c3_])))))), (c0_, .inr (3, [.int we0, .ref c0_1, .ref c0_2, .ref c0_3, .ref c0_4, .int se0])), (c0_1, .inl (g.2 0, 32, .inl f0_1)), (c0_2, .inl (g.2 0, 33, .inl f0_2)), (c0_3, .inl (g.2 0, 33, .inl f0_3)), (c0_4, .inl (g.2 0, 16, .inl f0_4)), (c1_, .inr (3, [.int we1, .ref c1_1, .ref c1_2, .ref c1_3, .ref c1_4, .int se1])), (c1_1, .inl (g.2 0, 32, .inl f1_1)), (c1_2, .inl (g.2 0, 33, .inl f1_2)), (c1_3, .inl (g.2 0, 33, .inl f1_3)), (c1_4, .inl (g.2 0, 16, .inl f1_4)), (c3_, .inr (3, [.int we3, .ref c3_1, .ref c3_2, .ref c3_3, .ref c3_4, .int se3])), (c3_1, .inl (g.2 0, 32, .inl f3_1)), (c3_2, .inl (g.2 0, 33, .inl f3_2)), (c3_3, .inl (g.2 0, 33, .inl f3_3)), (c3_4, .inl (g.2 0, 16, .inl f3_4)), (aA, .inr (0, [s1, s2, s3, s4, .int tm])), (c2_, .inr (3, [.int we2, .ref c2_1, .ref c2_2, .ref c2_3, .ref c2_4, .int se2])), (c2_1, .inl (g.2 0, 32, .inl z54)), (c2_2, .inl (g.2 0, 33, .inl z55)), (c2_3, .inl (g.2 0, 33, .inl z56)), (c2_4, .inl (g.2 0, 16, .inl f2_4))] H := hP
                    have hD : va_D A [(h0, .inr (8, [.ref aC, aW, aT, aB, aL, aG, aM, .ref aA, aU, aE, aD, .int 0, .int 0])), (aC, .inl (g.2 4, 4, .inr (.inr (.inr (.inr (zS [some c0_, some c1_, some c2_, some c3_])))))), (c0_, .inr (3, [.int we0, .ref c0_1, .ref c0_2, .ref c0_3, .ref c0_4, .int se0])), (c0_1, .inl (g.2 0, 32, .inl f0_1)), (c0_2, .inl (g.2 0, 33, .inl f0_2)), (c0_3, .inl (g.2 0, 33, .inl f0_3)), (c0_4, .inl (g.2 0, 16, .inl f0_4)), (c1_, .inr (3, [.int we1, .ref c1_1, .ref c1_2, .ref c1_3, .ref c1_4, .int se1])), (c1_1, .inl (g.2 0, 32, .inl f1_1)), (c1_2, .inl (g.2 0, 33, .inl f1_2)), (c1_3, .inl (g.2 0, 33, .inl f1_3)), (c1_4, .inl (g.2 0, 16, .inl f1_4)), (c3_, .inr (3, [.int we3, .ref c3_1, .ref c3_2, .ref c3_3, .ref c3_4, .int se3])), (c3_1, .inl (g.2 0, 32, .inl f3_1)), (c3_2, .inl (g.2 0, 33, .inl f3_2)), (c3_3, .inl (g.2 0, 33, .inl f3_3)), (c3_4, .inl (g.2 0, 16, .inl f3_4)), (aA, .inr (0, [s1, s2, s3, s4, .int tm])), (c2_, .inr (3, [.int we2, .ref c2_1, .ref c2_2, .ref c2_3, .ref c2_4, .int se2])), (c2_1, .inl (g.2 0, 32, .inl z54)), (c2_2, .inl (g.2 0, 33, .inl z55)), (c2_3, .inl (g.2 0, 33, .inl z56)), (c2_4, .inl (g.2 0, 16, .inl f2_4))] := hD
                    refine lv_aload_n hx hb dX8_upper_53 rfl (lv_at hl 0 rfl) ?_
                    refine va_get (D := g.1) (ci := 8) (v := .ref aA) (C := RX8) (T := TX8) (N := 13) hx hb hg inG8 hown hK hP 0 rfl rfl 7 (by decide) (hg _ mm_367) (fun _ h9 => h9) rfl dX8_upper_54 ?_
                    have hPc := hP.sub (ws' := [(aA, .inr (0, [s1, s2, s3, s4, .int tm]))]) [17] rfl
                    have hDc := hD.sub (ws' := [(aA, .inr (0, [s1, s2, s3, s4, .int tm]))]) [17] (by decide) rfl
                    have hFc := va_free (wc := [(aA, .inr (0, [s1, s2, s3, s4, .int tm]))]) hD hS hA [17] rfl
                    refine va_callv (va_runV (As := []) (rest := []) ⟨hx, hb, hml, hown, hg⟩ (c_X0_forget l g _ aA (s1 : Value) (s2 : Value) (s3 : Value) (s4 : Value) tm ) (cwV 0 hg (z_gV mm_419 mm_420 mm_421 mm_112 mm_422) rfl rfl rfl (by decide +kernel) ⟨Nat.le_of_ble_eq_true rfl, Nat.le_of_ble_eq_true rfl⟩) ⟨(zA.pre [.ref aA] hPc hK hDc hN).1, va_recv hK hPc (ci := 0) (q0 := 0) rfl rfl, (zA.pre [.ref aA] hPc hK hDc hN).2⟩ rfl rfl hl.1 rfl (lv_room (Nat.le_of_ble_eq_true rfl)) dX8_upper_57 ⟨Nat.le_of_ble_eq_true rfl, Nat.le_of_ble_eq_true rfl⟩) hS (fun q _ h => hFc q h) hFc (fun _ t H1 locs ht hvm hr57 hB hz1 hk1 hS => ?_)
                    obtain ⟨z58, hP1, hD1⟩ := hB
                    rw [ht] at hP1
                    obtain ⟨hP, hD⟩ := va_join (wr := [(h0, .inr (8, [.ref aC, aW, aT, aB, aL, aG, aM, .ref aA, aU, aE, aD, .int 0, .int 0])), (aC, .inl (g.2 4, 4, .inr (.inr (.inr (.inr (zS [some c0_, some c1_, some c2_, some c3_])))))), (c0_, .inr (3, [.int we0, .ref c0_1, .ref c0_2, .ref c0_3, .ref c0_4, .int se0])), (c0_1, .inl (g.2 0, 32, .inl f0_1)), (c0_2, .inl (g.2 0, 33, .inl f0_2)), (c0_3, .inl (g.2 0, 33, .inl f0_3)), (c0_4, .inl (g.2 0, 16, .inl f0_4)), (c1_, .inr (3, [.int we1, .ref c1_1, .ref c1_2, .ref c1_3, .ref c1_4, .int se1])), (c1_1, .inl (g.2 0, 32, .inl f1_1)), (c1_2, .inl (g.2 0, 33, .inl f1_2)), (c1_3, .inl (g.2 0, 33, .inl f1_3)), (c1_4, .inl (g.2 0, 16, .inl f1_4)), (c3_, .inr (3, [.int we3, .ref c3_1, .ref c3_2, .ref c3_3, .ref c3_4, .int se3])), (c3_1, .inl (g.2 0, 32, .inl f3_1)), (c3_2, .inl (g.2 0, 33, .inl f3_2)), (c3_3, .inl (g.2 0, 33, .inl f3_3)), (c3_4, .inl (g.2 0, 16, .inl f3_4)), (c2_, .inr (3, [.int we2, .ref c2_1, .ref c2_2, .ref c2_3, .ref c2_4, .int se2])), (c2_1, .inl (g.2 0, 32, .inl z54)), (c2_2, .inl (g.2 0, 33, .inl z55)), (c2_3, .inl (g.2 0, 33, .inl z56)), (c2_4, .inl (g.2 0, 16, .inl f2_4))]) (w1 := [(aA, .inr (0, [(s1 : Value), (s2 : Value), (s3 : Value), (s4 : Value), .int z58]))]) hP hD [17] [0, 1, 2, 3, 4, 5, 6, 7, 8, 9, 10, 11, 12, 13, 14, 15, 16, 18, 19, 20, 21, 22] rfl rfl (by decide) (by decide) hk1 hFc hP1 hD1
                    generalize H1 = H at hP hS ⊢
                    refine W.widen (k := 0) (n := 0) (Nat.le_of_ble_eq_true rfl) (Nat.le_of_ble_eq_true rfl) ?_
                    have hP : zP g [(h0, .inr (8, [.ref aC, aW, aT, aB, aL, aG, aM, .ref aA, aU, aE, aD, .int 0, .int 0])), (aC, .inl (g.2 4, 4, .inr (.inr (.inr (.inr (zS [some c0_, some c1_, some c2_, some c3_])))))), (c0_, .inr (3, [.int we0, .ref c0_1, .ref c0_2, .ref c0_3, .ref c0_4, .int se0])), (c0_1, .inl (g.2 0, 32, .inl f0_1)), (c0_2, .inl (g.2 0, 33, .inl f0_2)), (c0_3, .inl (g.2 0, 33, .inl f0_3)), (c0_4, .inl (g.2 0, 16, .inl f0_4)), (c1_, .inr (3, [.int we1, .ref c1_1, .ref c1_2, .ref c1_3, .ref c1_4, .int se1])), (c1_1, .inl (g.2 0, 32, .inl f1_1)), (c1_2, .inl (g.2 0, 33, .inl f1_2)), (c1_3, .inl (g.2 0, 33, .inl f1_3)), (c1_4, .inl (g.2 0, 16, .inl f1_4)), (c3_, .inr (3, [.int we3, .ref c3_1, .ref c3_2, .ref c3_3, .ref c3_4, .int se3])), (c3_1, .inl (g.2 0, 32, .inl f3_1)), (c3_2, .inl (g.2 0, 33, .inl f3_2)), (c3_3, .inl (g.2 0, 33, .inl f3_3)), (c3_4, .inl (g.2 0, 16, .inl f3_4)), (c2_, .inr (3, [.int we2, .ref c2_1, .ref c2_2, .ref c2_3, .ref c2_4, .int se2])), (c2_1, .inl (g.2 0, 32, .inl z54)), (c2_2, .inl (g.2 0, 33, .inl z55)), (c2_3, .inl (g.2 0, 33, .inl z56)), (c2_4, .inl (g.2 0, 16, .inl f2_4)), (aA, .inr (0, [(s1 : Value), (s2 : Value), (s3 : Value), (s4 : Value), .int z58]))] H := hP
                    have hD : va_D A [(h0, .inr (8, [.ref aC, aW, aT, aB, aL, aG, aM, .ref aA, aU, aE, aD, .int 0, .int 0])), (aC, .inl (g.2 4, 4, .inr (.inr (.inr (.inr (zS [some c0_, some c1_, some c2_, some c3_])))))), (c0_, .inr (3, [.int we0, .ref c0_1, .ref c0_2, .ref c0_3, .ref c0_4, .int se0])), (c0_1, .inl (g.2 0, 32, .inl f0_1)), (c0_2, .inl (g.2 0, 33, .inl f0_2)), (c0_3, .inl (g.2 0, 33, .inl f0_3)), (c0_4, .inl (g.2 0, 16, .inl f0_4)), (c1_, .inr (3, [.int we1, .ref c1_1, .ref c1_2, .ref c1_3, .ref c1_4, .int se1])), (c1_1, .inl (g.2 0, 32, .inl f1_1)), (c1_2, .inl (g.2 0, 33, .inl f1_2)), (c1_3, .inl (g.2 0, 33, .inl f1_3)), (c1_4, .inl (g.2 0, 16, .inl f1_4)), (c3_, .inr (3, [.int we3, .ref c3_1, .ref c3_2, .ref c3_3, .ref c3_4, .int se3])), (c3_1, .inl (g.2 0, 32, .inl f3_1)), (c3_2, .inl (g.2 0, 33, .inl f3_2)), (c3_3, .inl (g.2 0, 33, .inl f3_3)), (c3_4, .inl (g.2 0, 16, .inl f3_4)), (c2_, .inr (3, [.int we2, .ref c2_1, .ref c2_2, .ref c2_3, .ref c2_4, .int se2])), (c2_1, .inl (g.2 0, 32, .inl z54)), (c2_2, .inl (g.2 0, 33, .inl z55)), (c2_3, .inl (g.2 0, 33, .inl z56)), (c2_4, .inl (g.2 0, 16, .inl f2_4)), (aA, .inr (0, [(s1 : Value), (s2 : Value), (s3 : Value), (s4 : Value), .int z58]))] := hD
                    refine lv_iconst (v := 1) hx hb dX8_upper_60 (by decide) ?_
                    have hP9 := hP.sub (ws' := []) [] rfl
                    have hD9 := hD.sub (ws' := []) [] (by decide) rfl
                    refine W.widen (k := 0) (n := 0) (Nat.le_of_ble_eq_true rfl) (Nat.le_of_ble_eq_true rfl) ?_
                    exact W.zret (v := 1) hx hb hr rfl (fun t ht hW => ⟨⟨1, (), rfl, by first | exact Or.inl ⟨rfl, by omega⟩ | exact Or.inr ⟨rfl, by omega⟩, ⟨by rw [ht]; exact hP9, hD9⟩⟩, hS.F ht⟩) hS.2.2 dX8_upper_61
                  · skip
                    have ehs40 : c0.toInt = 3 := by rw [hs40]; rfl
                    have qhs40 : (3 : Int32).toInt = 3 := rfl
                    subst hs40
                    refine va_aldq hx hb hK hP 1 4 rfl rfl (z_in (by decide : (3 : Int32).toInt = 3) (by omega) (by omega)) dX8_upper_47 ?_
                    refine W.eq (g2 := F0 m 48 ls [.ref c3_]) rfl ?_
                    refine lv_iload_n hx hb dX8_upper_48 rfl (lv_at hl 2 rfl) ?_
                    refine lv_iload_n hx hb dX8_upper_49 rfl (lv_at hl 3 rfl) ?_
                    have hPc := hP.sub (ws' := [(c3_, .inr (3, [.int we3, .ref c3_1, .ref c3_2, .ref c3_3, .ref c3_4, .int se3])), (c3_1, .inl (g.2 0, 32, .inl f3_1)), (c3_2, .inl (g.2 0, 33, .inl f3_2)), (c3_3, .inl (g.2 0, 33, .inl f3_3)), (c3_4, .inl (g.2 0, 16, .inl f3_4))]) [17, 18, 19, 20, 21] rfl
                    have hDc := hD.sub (ws' := [(c3_, .inr (3, [.int we3, .ref c3_1, .ref c3_2, .ref c3_3, .ref c3_4, .int se3])), (c3_1, .inl (g.2 0, 32, .inl f3_1)), (c3_2, .inl (g.2 0, 33, .inl f3_2)), (c3_3, .inl (g.2 0, 33, .inl f3_3)), (c3_4, .inl (g.2 0, 16, .inl f3_4))]) [17, 18, 19, 20, 21] (by decide) rfl
                    have hFc := va_free (wc := [(c3_, .inr (3, [.int we3, .ref c3_1, .ref c3_2, .ref c3_3, .ref c3_4, .int se3])), (c3_1, .inl (g.2 0, 32, .inl f3_1)), (c3_2, .inl (g.2 0, 33, .inl f3_2)), (c3_3, .inl (g.2 0, 33, .inl f3_3)), (c3_4, .inl (g.2 0, 16, .inl f3_4))]) hD hS hA [17, 18, 19, 20, 21] rfl
                    refine va_callv (va_runV (As := [.int nd, .int up]) (rest := []) ⟨hx, hb, hml, hown, hg⟩ (c_X3_hang l g _ c3_ c3_1 c3_2 c3_3 c3_4 f3_1 f3_2 f3_3 f3_4 we3 se3 nd up (by first | omega | assumption | decide)) (cwV 2 hg (z_gV mm_410 mm_411 mm_412 mm_115 mm_413) rfl rfl rfl (by decide +kernel) ⟨Nat.le_of_ble_eq_true rfl, Nat.le_of_ble_eq_true rfl⟩) ⟨(zA.pre [.ref c3_, .int nd, .int up] hPc hK hDc hN).1, va_recv hK hPc (ci := 3) (q0 := 0) rfl rfl, (zA.pre [.ref c3_, .int nd, .int up] hPc hK hDc hN).2⟩ rfl rfl hl.1 rfl (lv_room (Nat.le_of_ble_eq_true rfl)) dX8_upper_50 ⟨Nat.le_of_ble_eq_true rfl, Nat.le_of_ble_eq_true rfl⟩) hS (fun q _ h => hFc q h) hFc (fun _ t H1 locs ht hvm hr59 hB hz1 hk1 hS => ?_)
                    obtain ⟨z60, z61, z62, hP1, hD1⟩ := hB
                    rw [ht] at hP1
                    obtain ⟨hP, hD⟩ := va_join (wr := [(h0, .inr (8, [.ref aC, aW, aT, aB, aL, aG, aM, .ref aA, aU, aE, aD, .int 0, .int 0])), (aC, .inl (g.2 4, 4, .inr (.inr (.inr (.inr (zS [some c0_, some c1_, some c2_, some c3_])))))), (c0_, .inr (3, [.int we0, .ref c0_1, .ref c0_2, .ref c0_3, .ref c0_4, .int se0])), (c0_1, .inl (g.2 0, 32, .inl f0_1)), (c0_2, .inl (g.2 0, 33, .inl f0_2)), (c0_3, .inl (g.2 0, 33, .inl f0_3)), (c0_4, .inl (g.2 0, 16, .inl f0_4)), (c1_, .inr (3, [.int we1, .ref c1_1, .ref c1_2, .ref c1_3, .ref c1_4, .int se1])), (c1_1, .inl (g.2 0, 32, .inl f1_1)), (c1_2, .inl (g.2 0, 33, .inl f1_2)), (c1_3, .inl (g.2 0, 33, .inl f1_3)), (c1_4, .inl (g.2 0, 16, .inl f1_4)), (c2_, .inr (3, [.int we2, .ref c2_1, .ref c2_2, .ref c2_3, .ref c2_4, .int se2])), (c2_1, .inl (g.2 0, 32, .inl f2_1)), (c2_2, .inl (g.2 0, 33, .inl f2_2)), (c2_3, .inl (g.2 0, 33, .inl f2_3)), (c2_4, .inl (g.2 0, 16, .inl f2_4)), (aA, .inr (0, [s1, s2, s3, s4, .int tm]))]) (w1 := [(c3_, .inr (3, [.int we3, .ref c3_1, .ref c3_2, .ref c3_3, .ref c3_4, .int se3])), (c3_1, .inl (g.2 0, 32, .inl z60)), (c3_2, .inl (g.2 0, 33, .inl z61)), (c3_3, .inl (g.2 0, 33, .inl z62)), (c3_4, .inl (g.2 0, 16, .inl f3_4))]) hP hD [17, 18, 19, 20, 21] [0, 1, 2, 3, 4, 5, 6, 7, 8, 9, 10, 11, 12, 13, 14, 15, 16, 22] rfl rfl (by decide) (by decide) hk1 hFc hP1 hD1
                    generalize H1 = H at hP hS ⊢
                    refine W.widen (k := 0) (n := 0) (Nat.le_of_ble_eq_true rfl) (Nat.le_of_ble_eq_true rfl) ?_
                    have hP : zP g [(h0, .inr (8, [.ref aC, aW, aT, aB, aL, aG, aM, .ref aA, aU, aE, aD, .int 0, .int 0])), (aC, .inl (g.2 4, 4, .inr (.inr (.inr (.inr (zS [some c0_, some c1_, some c2_, some c3_])))))), (c0_, .inr (3, [.int we0, .ref c0_1, .ref c0_2, .ref c0_3, .ref c0_4, .int se0])), (c0_1, .inl (g.2 0, 32, .inl f0_1)), (c0_2, .inl (g.2 0, 33, .inl f0_2)), (c0_3, .inl (g.2 0, 33, .inl f0_3)), (c0_4, .inl (g.2 0, 16, .inl f0_4)), (c1_, .inr (3, [.int we1, .ref c1_1, .ref c1_2, .ref c1_3, .ref c1_4, .int se1])), (c1_1, .inl (g.2 0, 32, .inl f1_1)), (c1_2, .inl (g.2 0, 33, .inl f1_2)), (c1_3, .inl (g.2 0, 33, .inl f1_3)), (c1_4, .inl (g.2 0, 16, .inl f1_4)), (c2_, .inr (3, [.int we2, .ref c2_1, .ref c2_2, .ref c2_3, .ref c2_4, .int se2])), (c2_1, .inl (g.2 0, 32, .inl f2_1)), (c2_2, .inl (g.2 0, 33, .inl f2_2)), (c2_3, .inl (g.2 0, 33, .inl f2_3)), (c2_4, .inl (g.2 0, 16, .inl f2_4)), (aA, .inr (0, [s1, s2, s3, s4, .int tm])), (c3_, .inr (3, [.int we3, .ref c3_1, .ref c3_2, .ref c3_3, .ref c3_4, .int se3])), (c3_1, .inl (g.2 0, 32, .inl z60)), (c3_2, .inl (g.2 0, 33, .inl z61)), (c3_3, .inl (g.2 0, 33, .inl z62)), (c3_4, .inl (g.2 0, 16, .inl f3_4))] H := hP
                    have hD : va_D A [(h0, .inr (8, [.ref aC, aW, aT, aB, aL, aG, aM, .ref aA, aU, aE, aD, .int 0, .int 0])), (aC, .inl (g.2 4, 4, .inr (.inr (.inr (.inr (zS [some c0_, some c1_, some c2_, some c3_])))))), (c0_, .inr (3, [.int we0, .ref c0_1, .ref c0_2, .ref c0_3, .ref c0_4, .int se0])), (c0_1, .inl (g.2 0, 32, .inl f0_1)), (c0_2, .inl (g.2 0, 33, .inl f0_2)), (c0_3, .inl (g.2 0, 33, .inl f0_3)), (c0_4, .inl (g.2 0, 16, .inl f0_4)), (c1_, .inr (3, [.int we1, .ref c1_1, .ref c1_2, .ref c1_3, .ref c1_4, .int se1])), (c1_1, .inl (g.2 0, 32, .inl f1_1)), (c1_2, .inl (g.2 0, 33, .inl f1_2)), (c1_3, .inl (g.2 0, 33, .inl f1_3)), (c1_4, .inl (g.2 0, 16, .inl f1_4)), (c2_, .inr (3, [.int we2, .ref c2_1, .ref c2_2, .ref c2_3, .ref c2_4, .int se2])), (c2_1, .inl (g.2 0, 32, .inl f2_1)), (c2_2, .inl (g.2 0, 33, .inl f2_2)), (c2_3, .inl (g.2 0, 33, .inl f2_3)), (c2_4, .inl (g.2 0, 16, .inl f2_4)), (aA, .inr (0, [s1, s2, s3, s4, .int tm])), (c3_, .inr (3, [.int we3, .ref c3_1, .ref c3_2, .ref c3_3, .ref c3_4, .int se3])), (c3_1, .inl (g.2 0, 32, .inl z60)), (c3_2, .inl (g.2 0, 33, .inl z61)), (c3_3, .inl (g.2 0, 33, .inl z62)), (c3_4, .inl (g.2 0, 16, .inl f3_4))] := hD
                    refine lv_aload_n hx hb dX8_upper_53 rfl (lv_at hl 0 rfl) ?_
                    refine va_get (D := g.1) (ci := 8) (v := .ref aA) (C := RX8) (T := TX8) (N := 13) hx hb hg inG8 hown hK hP 0 rfl rfl 7 (by decide) (hg _ mm_367) (fun _ h9 => h9) rfl dX8_upper_54 ?_
                    have hPc := hP.sub (ws' := [(aA, .inr (0, [s1, s2, s3, s4, .int tm]))]) [17] rfl
                    have hDc := hD.sub (ws' := [(aA, .inr (0, [s1, s2, s3, s4, .int tm]))]) [17] (by decide) rfl
                    have hFc := va_free (wc := [(aA, .inr (0, [s1, s2, s3, s4, .int tm]))]) hD hS hA [17] rfl
                    refine va_callv (va_runV (As := []) (rest := []) ⟨hx, hb, hml, hown, hg⟩ (c_X0_forget l g _ aA (s1 : Value) (s2 : Value) (s3 : Value) (s4 : Value) tm ) (cwV 0 hg (z_gV mm_419 mm_420 mm_421 mm_112 mm_422) rfl rfl rfl (by decide +kernel) ⟨Nat.le_of_ble_eq_true rfl, Nat.le_of_ble_eq_true rfl⟩) ⟨(zA.pre [.ref aA] hPc hK hDc hN).1, va_recv hK hPc (ci := 0) (q0 := 0) rfl rfl, (zA.pre [.ref aA] hPc hK hDc hN).2⟩ rfl rfl hl.1 rfl (lv_room (Nat.le_of_ble_eq_true rfl)) dX8_upper_57 ⟨Nat.le_of_ble_eq_true rfl, Nat.le_of_ble_eq_true rfl⟩) hS (fun q _ h => hFc q h) hFc (fun _ t H1 locs ht hvm hr63 hB hz1 hk1 hS => ?_)
                    obtain ⟨z64, hP1, hD1⟩ := hB
                    rw [ht] at hP1
                    obtain ⟨hP, hD⟩ := va_join (wr := [(h0, .inr (8, [.ref aC, aW, aT, aB, aL, aG, aM, .ref aA, aU, aE, aD, .int 0, .int 0])), (aC, .inl (g.2 4, 4, .inr (.inr (.inr (.inr (zS [some c0_, some c1_, some c2_, some c3_])))))), (c0_, .inr (3, [.int we0, .ref c0_1, .ref c0_2, .ref c0_3, .ref c0_4, .int se0])), (c0_1, .inl (g.2 0, 32, .inl f0_1)), (c0_2, .inl (g.2 0, 33, .inl f0_2)), (c0_3, .inl (g.2 0, 33, .inl f0_3)), (c0_4, .inl (g.2 0, 16, .inl f0_4)), (c1_, .inr (3, [.int we1, .ref c1_1, .ref c1_2, .ref c1_3, .ref c1_4, .int se1])), (c1_1, .inl (g.2 0, 32, .inl f1_1)), (c1_2, .inl (g.2 0, 33, .inl f1_2)), (c1_3, .inl (g.2 0, 33, .inl f1_3)), (c1_4, .inl (g.2 0, 16, .inl f1_4)), (c2_, .inr (3, [.int we2, .ref c2_1, .ref c2_2, .ref c2_3, .ref c2_4, .int se2])), (c2_1, .inl (g.2 0, 32, .inl f2_1)), (c2_2, .inl (g.2 0, 33, .inl f2_2)), (c2_3, .inl (g.2 0, 33, .inl f2_3)), (c2_4, .inl (g.2 0, 16, .inl f2_4)), (c3_, .inr (3, [.int we3, .ref c3_1, .ref c3_2, .ref c3_3, .ref c3_4, .int se3])), (c3_1, .inl (g.2 0, 32, .inl z60)), (c3_2, .inl (g.2 0, 33, .inl z61)), (c3_3, .inl (g.2 0, 33, .inl z62)), (c3_4, .inl (g.2 0, 16, .inl f3_4))]) (w1 := [(aA, .inr (0, [(s1 : Value), (s2 : Value), (s3 : Value), (s4 : Value), .int z64]))]) hP hD [17] [0, 1, 2, 3, 4, 5, 6, 7, 8, 9, 10, 11, 12, 13, 14, 15, 16, 18, 19, 20, 21, 22] rfl rfl (by decide) (by decide) hk1 hFc hP1 hD1
                    generalize H1 = H at hP hS ⊢
                    refine W.widen (k := 0) (n := 0) (Nat.le_of_ble_eq_true rfl) (Nat.le_of_ble_eq_true rfl) ?_
                    have hP : zP g [(h0, .inr (8, [.ref aC, aW, aT, aB, aL, aG, aM, .ref aA, aU, aE, aD, .int 0, .int 0])), (aC, .inl (g.2 4, 4, .inr (.inr (.inr (.inr (zS [some c0_, some c1_, some c2_, some c3_])))))), (c0_, .inr (3, [.int we0, .ref c0_1, .ref c0_2, .ref c0_3, .ref c0_4, .int se0])), (c0_1, .inl (g.2 0, 32, .inl f0_1)), (c0_2, .inl (g.2 0, 33, .inl f0_2)), (c0_3, .inl (g.2 0, 33, .inl f0_3)), (c0_4, .inl (g.2 0, 16, .inl f0_4)), (c1_, .inr (3, [.int we1, .ref c1_1, .ref c1_2, .ref c1_3, .ref c1_4, .int se1])), (c1_1, .inl (g.2 0, 32, .inl f1_1)), (c1_2, .inl (g.2 0, 33, .inl f1_2)), (c1_3, .inl (g.2 0, 33, .inl f1_3)), (c1_4, .inl (g.2 0, 16, .inl f1_4)), (c2_, .inr (3, [.int we2, .ref c2_1, .ref c2_2, .ref c2_3, .ref c2_4, .int se2])), (c2_1, .inl (g.2 0, 32, .inl f2_1)), (c2_2, .inl (g.2 0, 33, .inl f2_2)), (c2_3, .inl (g.2 0, 33, .inl f2_3)), (c2_4, .inl (g.2 0, 16, .inl f2_4)), (c3_, .inr (3, [.int we3, .ref c3_1, .ref c3_2, .ref c3_3, .ref c3_4, .int se3])), (c3_1, .inl (g.2 0, 32, .inl z60)), (c3_2, .inl (g.2 0, 33, .inl z61)), (c3_3, .inl (g.2 0, 33, .inl z62)), (c3_4, .inl (g.2 0, 16, .inl f3_4)), (aA, .inr (0, [(s1 : Value), (s2 : Value), (s3 : Value), (s4 : Value), .int z64]))] H := hP
                    have hD : va_D A [(h0, .inr (8, [.ref aC, aW, aT, aB, aL, aG, aM, .ref aA, aU, aE, aD, .int 0, .int 0])), (aC, .inl (g.2 4, 4, .inr (.inr (.inr (.inr (zS [some c0_, some c1_, some c2_, some c3_])))))), (c0_, .inr (3, [.int we0, .ref c0_1, .ref c0_2, .ref c0_3, .ref c0_4, .int se0])), (c0_1, .inl (g.2 0, 32, .inl f0_1)), (c0_2, .inl (g.2 0, 33, .inl f0_2)), (c0_3, .inl (g.2 0, 33, .inl f0_3)), (c0_4, .inl (g.2 0, 16, .inl f0_4)), (c1_, .inr (3, [.int we1, .ref c1_1, .ref c1_2, .ref c1_3, .ref c1_4, .int se1])), (c1_1, .inl (g.2 0, 32, .inl f1_1)), (c1_2, .inl (g.2 0, 33, .inl f1_2)), (c1_3, .inl (g.2 0, 33, .inl f1_3)), (c1_4, .inl (g.2 0, 16, .inl f1_4)), (c2_, .inr (3, [.int we2, .ref c2_1, .ref c2_2, .ref c2_3, .ref c2_4, .int se2])), (c2_1, .inl (g.2 0, 32, .inl f2_1)), (c2_2, .inl (g.2 0, 33, .inl f2_2)), (c2_3, .inl (g.2 0, 33, .inl f2_3)), (c2_4, .inl (g.2 0, 16, .inl f2_4)), (c3_, .inr (3, [.int we3, .ref c3_1, .ref c3_2, .ref c3_3, .ref c3_4, .int se3])), (c3_1, .inl (g.2 0, 32, .inl z60)), (c3_2, .inl (g.2 0, 33, .inl z61)), (c3_3, .inl (g.2 0, 33, .inl z62)), (c3_4, .inl (g.2 0, 16, .inl f3_4)), (aA, .inr (0, [(s1 : Value), (s2 : Value), (s3 : Value), (s4 : Value), .int z64]))] := hD
                    refine lv_iconst (v := 1) hx hb dX8_upper_60 (by decide) ?_
                    have hP9 := hP.sub (ws' := []) [] rfl
                    have hD9 := hD.sub (ws' := []) [] (by decide) rfl
                    refine W.widen (k := 0) (n := 0) (Nat.le_of_ble_eq_true rfl) (Nat.le_of_ble_eq_true rfl) ?_
                    exact W.zret (v := 1) hx hb hr rfl (fun t ht hW => ⟨⟨1, (), rfl, by first | exact Or.inl ⟨rfl, by omega⟩ | exact Or.inr ⟨rfl, by omega⟩, ⟨by rw [ht]; exact hP9, hD9⟩⟩, hS.F ht⟩) hS.2.2 dX8_upper_61
                · skip
                  have c39 : ¬ (nd.toInt < up.toInt) := fun q => c39 ((z_lt rfl rfl).mpr q)
                  refine lv_iconst (v := 0) hx hb dX8_upper_40 (by decide) ?_
                  have hP9 := hP.sub (ws' := []) [] rfl
                  have hD9 := hD.sub (ws' := []) [] (by decide) rfl
                  refine W.widen (k := 0) (n := 0) (Nat.le_of_ble_eq_true rfl) (Nat.le_of_ble_eq_true rfl) ?_
                  exact W.zret (v := 0) hx hb hr rfl (fun t ht hW => ⟨⟨0, (), rfl, by first | exact Or.inl ⟨rfl, by omega⟩ | exact Or.inr ⟨rfl, by omega⟩, ⟨by rw [ht]; exact hP9, hD9⟩⟩, hS.F ht⟩) hS.2.2 dX8_upper_41
            · skip
              obtain ⟨rfl, h65⟩ := hr35
              have h65 : ¬ ((16 : Int) ≤ up.toInt ∧ up.toInt ≤ (31 : Int)) := h65
              refine lv_if_eq (tgt := 40) hx hb dX8_upper_32 (by decide) (fun c66 => ?_) (fun c66 => ?_)
              · skip
                refine lv_iconst (v := 0) hx hb dX8_upper_40 (by decide) ?_
                have hP9 := hP.sub (ws' := []) [] rfl
                have hD9 := hD.sub (ws' := []) [] (by decide) rfl
                refine W.widen (k := 0) (n := 0) (Nat.le_of_ble_eq_true rfl) (Nat.le_of_ble_eq_true rfl) ?_
                exact W.zret (v := 0) hx hb hr rfl (fun t ht hW => ⟨⟨0, (), rfl, by first | exact Or.inl ⟨rfl, by omega⟩ | exact Or.inr ⟨rfl, by omega⟩, ⟨by rw [ht]; exact hP9, hD9⟩⟩, hS.F ht⟩) hS.2.2 dX8_upper_41
              · skip
                exact absurd c66 (by decide)
        · skip
          exact absurd c8 (by decide)
      · skip
        obtain ⟨rfl, h67⟩ := hr5
        have h67 : ¬ ((0 : Int) ≤ nd.toInt ∧ nd.toInt ≤ (31 : Int)) := h67
        refine lv_if_ne (tgt := 19) hx hb dX8_upper_14 (by decide) (fun c68 => ?_) (fun c68 => ?_)
        · skip
          exact absurd c68 (by decide)
        · skip
          refine lv_iconst (v := 0) hx hb dX8_upper_17 (by decide) ?_
          have hP9 := hP.sub (ws' := []) [] rfl
          have hD9 := hD.sub (ws' := []) [] (by decide) rfl
          refine W.widen (k := 0) (n := 0) (Nat.le_of_ble_eq_true rfl) (Nat.le_of_ble_eq_true rfl) ?_
          exact W.zret (v := 0) hx hb hr rfl (fun t ht hW => ⟨⟨0, (), rfl, by first | exact Or.inl ⟨rfl, by omega⟩ | exact Or.inr ⟨rfl, by omega⟩, ⟨by rw [ht]; exact hP9, hD9⟩⟩, hS.F ht⟩) hS.2.2 dX8_upper_18
  · skip
    obtain ⟨rfl, h69⟩ := hr1
    have h69 : ¬ (0 ≤ c0.toInt ∧ c0.toInt ≤ 3) := h69
    refine lv_if_eq (tgt := 17) hx hb dX8_upper_4 (by decide) (fun c70 => ?_) (fun c70 => ?_)
    · skip
      refine lv_iconst (v := 0) hx hb dX8_upper_17 (by decide) ?_
      have hP9 := hP.sub (ws' := []) [] rfl
      have hD9 := hD.sub (ws' := []) [] (by decide) rfl
      refine W.widen (k := 0) (n := 0) (Nat.le_of_ble_eq_true rfl) (Nat.le_of_ble_eq_true rfl) ?_
      exact W.zret (v := 0) hx hb hr rfl (fun t ht hW => ⟨⟨0, (), rfl, by first | exact Or.inl ⟨rfl, by omega⟩ | exact Or.inr ⟨rfl, by omega⟩, ⟨by rw [ht]; exact hP9, hD9⟩⟩, hS.F ht⟩) hS.2.2 dX8_upper_18
    · skip
      exact absurd c70 (by decide)

set_option maxHeartbeats 4000000 in
set_option maxRecDepth 100000 in
theorem c_X8_weight (l : Launch) (g : zG) (sz : Nat) (h0 : Nat) (aC : Nat) (aW : Value) (aT : Value) (aB : Value) (aL : Value) (aG : Value) (aM : Value) (aA : Value) (aU : Value) (aE : Value) (aD : Value) (c0_ : Nat) (c0_1 : Nat) (c0_2 : Nat) (c0_3 : Nat) (c0_4 : Nat) (f0_1 : Nat → Int32) (f0_2 : Nat → Int32) (f0_3 : Nat → Int32) (f0_4 : Nat → Int32) (we0 : Int32) (se0 : Int32) (c1_ : Nat) (c1_1 : Nat) (c1_2 : Nat) (c1_3 : Nat) (c1_4 : Nat) (f1_1 : Nat → Int32) (f1_2 : Nat → Int32) (f1_3 : Nat → Int32) (f1_4 : Nat → Int32) (we1 : Int32) (se1 : Int32) (c2_ : Nat) (c2_1 : Nat) (c2_2 : Nat) (c2_3 : Nat) (c2_4 : Nat) (f2_1 : Nat → Int32) (f2_2 : Nat → Int32) (f2_3 : Nat → Int32) (f2_4 : Nat → Int32) (we2 : Int32) (se2 : Int32) (c3_ : Nat) (c3_1 : Nat) (c3_2 : Nat) (c3_3 : Nat) (c3_4 : Nat) (f3_1 : Nat → Int32) (f3_2 : Nat → Int32) (f3_3 : Nat → Int32) (f3_4 : Nat → Int32) (we3 : Int32) (se3 : Int32) (c0 : Int32) (n : Int32) : Met l yX8_weight (zW yX8_weight cX8_weight 3 (some .boolean)) ({ frames := 1, cells := 0, slots := 0, locals := 22 }) (va_Pc [.ref h0, .int c0, .int n] (zA g [(h0, .inr (8, [.ref aC, aW, aT, aB, aL, aG, aM, aA, aU, aE, aD, .int 0, .int 0])), (aC, .inl (g.2 4, 4, .inr (.inr (.inr (.inr (zS [some c0_, some c1_, some c2_, some c3_])))))), (c0_, .inr (3, [.int we0, .ref c0_1, .ref c0_2, .ref c0_3, .ref c0_4, .int se0])), (c0_1, .inl (g.2 0, 32, .inl f0_1)), (c0_2, .inl (g.2 0, 33, .inl f0_2)), (c0_3, .inl (g.2 0, 33, .inl f0_3)), (c0_4, .inl (g.2 0, 16, .inl f0_4)), (c1_, .inr (3, [.int we1, .ref c1_1, .ref c1_2, .ref c1_3, .ref c1_4, .int se1])), (c1_1, .inl (g.2 0, 32, .inl f1_1)), (c1_2, .inl (g.2 0, 33, .inl f1_2)), (c1_3, .inl (g.2 0, 33, .inl f1_3)), (c1_4, .inl (g.2 0, 16, .inl f1_4)), (c2_, .inr (3, [.int we2, .ref c2_1, .ref c2_2, .ref c2_3, .ref c2_4, .int se2])), (c2_1, .inl (g.2 0, 32, .inl f2_1)), (c2_2, .inl (g.2 0, 33, .inl f2_2)), (c2_3, .inl (g.2 0, 33, .inl f2_3)), (c2_4, .inl (g.2 0, 16, .inl f2_4)), (c3_, .inr (3, [.int we3, .ref c3_1, .ref c3_2, .ref c3_3, .ref c3_4, .int se3])), (c3_1, .inl (g.2 0, 32, .inl f3_1)), (c3_2, .inl (g.2 0, 33, .inl f3_2)), (c3_3, .inl (g.2 0, 33, .inl f3_3)), (c3_4, .inl (g.2 0, 16, .inl f3_4))] sz)) (va_Qi (fun (r : Int32) (_ : Unit) => (r = 1 ∧ (0 ≤ c0.toInt ∧ c0.toInt ≤ 3 ∧ (0 ≤ n.toInt ∧ n.toInt ≤ 99))) ∨ (r = 0 ∧ (¬ (0 ≤ c0.toInt ∧ c0.toInt ≤ 3 ∧ (0 ≤ n.toInt ∧ n.toInt ≤ 99))))) (fun _ t => zP g [] t.heap ∧ va_D (va_A [(h0, .inr (8, [.ref aC, aW, aT, aB, aL, aG, aM, aA, aU, aE, aD, .int 0, .int 0])), (aC, .inl (g.2 4, 4, .inr (.inr (.inr (.inr (zS [some c0_, some c1_, some c2_, some c3_])))))), (c0_, .inr (3, [.int we0, .ref c0_1, .ref c0_2, .ref c0_3, .ref c0_4, .int se0])), (c0_1, .inl (g.2 0, 32, .inl f0_1)), (c0_2, .inl (g.2 0, 33, .inl f0_2)), (c0_3, .inl (g.2 0, 33, .inl f0_3)), (c0_4, .inl (g.2 0, 16, .inl f0_4)), (c1_, .inr (3, [.int we1, .ref c1_1, .ref c1_2, .ref c1_3, .ref c1_4, .int se1])), (c1_1, .inl (g.2 0, 32, .inl f1_1)), (c1_2, .inl (g.2 0, 33, .inl f1_2)), (c1_3, .inl (g.2 0, 33, .inl f1_3)), (c1_4, .inl (g.2 0, 16, .inl f1_4)), (c2_, .inr (3, [.int we2, .ref c2_1, .ref c2_2, .ref c2_3, .ref c2_4, .int se2])), (c2_1, .inl (g.2 0, 32, .inl f2_1)), (c2_2, .inl (g.2 0, 33, .inl f2_2)), (c2_3, .inl (g.2 0, 33, .inl f2_3)), (c2_4, .inl (g.2 0, 16, .inl f2_4)), (c3_, .inr (3, [.int we3, .ref c3_1, .ref c3_2, .ref c3_3, .ref c3_4, .int se3])), (c3_1, .inl (g.2 0, 32, .inl f3_1)), (c3_2, .inl (g.2 0, 33, .inl f3_2)), (c3_3, .inl (g.2 0, 33, .inl f3_3)), (c3_4, .inl (g.2 0, 16, .inl f3_4))] sz) []) (va_A [(h0, .inr (8, [.ref aC, aW, aT, aB, aL, aG, aM, aA, aU, aE, aD, .int 0, .int 0])), (aC, .inl (g.2 4, 4, .inr (.inr (.inr (.inr (zS [some c0_, some c1_, some c2_, some c3_])))))), (c0_, .inr (3, [.int we0, .ref c0_1, .ref c0_2, .ref c0_3, .ref c0_4, .int se0])), (c0_1, .inl (g.2 0, 32, .inl f0_1)), (c0_2, .inl (g.2 0, 33, .inl f0_2)), (c0_3, .inl (g.2 0, 33, .inl f0_3)), (c0_4, .inl (g.2 0, 16, .inl f0_4)), (c1_, .inr (3, [.int we1, .ref c1_1, .ref c1_2, .ref c1_3, .ref c1_4, .int se1])), (c1_1, .inl (g.2 0, 32, .inl f1_1)), (c1_2, .inl (g.2 0, 33, .inl f1_2)), (c1_3, .inl (g.2 0, 33, .inl f1_3)), (c1_4, .inl (g.2 0, 16, .inl f1_4)), (c2_, .inr (3, [.int we2, .ref c2_1, .ref c2_2, .ref c2_3, .ref c2_4, .int se2])), (c2_1, .inl (g.2 0, 32, .inl f2_1)), (c2_2, .inl (g.2 0, 33, .inl f2_2)), (c2_3, .inl (g.2 0, 33, .inl f2_3)), (c2_4, .inl (g.2 0, 16, .inl f2_4)), (c3_, .inr (3, [.int we3, .ref c3_1, .ref c3_2, .ref c3_3, .ref c3_4, .int se3])), (c3_1, .inl (g.2 0, 32, .inl f3_1)), (c3_2, .inl (g.2 0, 33, .inl f3_2)), (c3_3, .inl (g.2 0, 33, .inl f3_3)), (c3_4, .inl (g.2 0, 16, .inl f3_4))] sz)) 0 0 (va_A [(h0, .inr (8, [.ref aC, aW, aT, aB, aL, aG, aM, aA, aU, aE, aD, .int 0, .int 0])), (aC, .inl (g.2 4, 4, .inr (.inr (.inr (.inr (zS [some c0_, some c1_, some c2_, some c3_])))))), (c0_, .inr (3, [.int we0, .ref c0_1, .ref c0_2, .ref c0_3, .ref c0_4, .int se0])), (c0_1, .inl (g.2 0, 32, .inl f0_1)), (c0_2, .inl (g.2 0, 33, .inl f0_2)), (c0_3, .inl (g.2 0, 33, .inl f0_3)), (c0_4, .inl (g.2 0, 16, .inl f0_4)), (c1_, .inr (3, [.int we1, .ref c1_1, .ref c1_2, .ref c1_3, .ref c1_4, .int se1])), (c1_1, .inl (g.2 0, 32, .inl f1_1)), (c1_2, .inl (g.2 0, 33, .inl f1_2)), (c1_3, .inl (g.2 0, 33, .inl f1_3)), (c1_4, .inl (g.2 0, 16, .inl f1_4)), (c2_, .inr (3, [.int we2, .ref c2_1, .ref c2_2, .ref c2_3, .ref c2_4, .int se2])), (c2_1, .inl (g.2 0, 32, .inl f2_1)), (c2_2, .inl (g.2 0, 33, .inl f2_2)), (c2_3, .inl (g.2 0, 33, .inl f2_3)), (c2_4, .inl (g.2 0, 16, .inl f2_4)), (c3_, .inr (3, [.int we3, .ref c3_1, .ref c3_2, .ref c3_3, .ref c3_4, .int se3])), (c3_1, .inl (g.2 0, 32, .inl f3_1)), (c3_2, .inl (g.2 0, 33, .inl f3_2)), (c3_3, .inl (g.2 0, 33, .inl f3_3)), (c3_4, .inl (g.2 0, 16, .inl f3_4))] sz) := by
  refine Met.ofW (cc := cX8_weight) (maxL := 3) (ret := (some .boolean)) (by decide) rfl ?_
  intro p e s m args below meth c s₁ B hml hv
  obtain ⟨rfl, hsz, hP, hK, hD0, hN⟩ := hv
  have hx := B.exec
  have hb := B.bytes
  have hr := B.returns
  have hg := zW.law (atoms_spec (ws := (zW yX8_weight cX8_weight 3 (some .boolean))) B.pre)
  have hown : s.vm.findClass RX8 = some m.cls := findClass_of_methodNamed B.named
  have hlocks := B.notSynchronized
  subst hsz
  have hD := hD0.self (sz := s.heap.size)
  generalize hAe : va_A [(h0, .inr (8, [.ref aC, aW, aT, aB, aL, aG, aM, aA, aU, aE, aD, .int 0, .int 0])), (aC, .inl (g.2 4, 4, .inr (.inr (.inr (.inr (zS [some c0_, some c1_, some c2_, some c3_])))))), (c0_, .inr (3, [.int we0, .ref c0_1, .ref c0_2, .ref c0_3, .ref c0_4, .int se0])), (c0_1, .inl (g.2 0, 32, .inl f0_1)), (c0_2, .inl (g.2 0, 33, .inl f0_2)), (c0_3, .inl (g.2 0, 33, .inl f0_3)), (c0_4, .inl (g.2 0, 16, .inl f0_4)), (c1_, .inr (3, [.int we1, .ref c1_1, .ref c1_2, .ref c1_3, .ref c1_4, .int se1])), (c1_1, .inl (g.2 0, 32, .inl f1_1)), (c1_2, .inl (g.2 0, 33, .inl f1_2)), (c1_3, .inl (g.2 0, 33, .inl f1_3)), (c1_4, .inl (g.2 0, 16, .inl f1_4)), (c2_, .inr (3, [.int we2, .ref c2_1, .ref c2_2, .ref c2_3, .ref c2_4, .int se2])), (c2_1, .inl (g.2 0, 32, .inl f2_1)), (c2_2, .inl (g.2 0, 33, .inl f2_2)), (c2_3, .inl (g.2 0, 33, .inl f2_3)), (c2_4, .inl (g.2 0, 16, .inl f2_4)), (c3_, .inr (3, [.int we3, .ref c3_1, .ref c3_2, .ref c3_3, .ref c3_4, .int se3])), (c3_1, .inl (g.2 0, 32, .inl f3_1)), (c3_2, .inl (g.2 0, 33, .inl f3_2)), (c3_3, .inl (g.2 0, 33, .inl f3_3)), (c3_4, .inl (g.2 0, 16, .inl f3_4))] s.heap.size = A at hD ⊢
  have hA : ∀ q : Nat, s.heap.size ≤ q → A q := fun q h => by rw [← hAe]; exact Or.inr h
  have hS : va_S A s.heap s.heap [] := va_S.rf
  have hl := lv_entry ([.ref h0, .int c0, .int n]) (n := 3) (Nat.le_of_ble_eq_true rfl)
  rw [lg_entry_eq]
  generalize (lg_sl ([.ref h0, .int c0, .int n]) ++ List.replicate (3 - (lg_sl ([.ref h0, .int c0, .int n])).length) Slot.unset).toArray = ls at hl ⊢
  have hl : lv_has ls 3 [(0, .ref h0), (1, .int c0), (2, .int n)] := hl
  refine lv_iload_n hx hb dX8_weight_0 rfl (lv_at hl 1 rfl) ?_
  have hPc := hP.sub (ws' := []) [] rfl
  refine zc_i (va_runS (As := [.int c0]) (rest := []) ⟨hx, hb, hml, hown, hg⟩ (c_X8_isColumn l g c0 ) (va_cwS 1 hg (z_gS mm_404 mm_405 mm_108 mm_406) rfl rfl rfl (by decide +kernel) ⟨Nat.le_of_ble_eq_true rfl, Nat.le_of_ble_eq_true rfl⟩) (zR.pre [.int c0] hPc hK hN) rfl rfl hl.1 rfl (lv_room (Nat.le_of_ble_eq_true rfl)) dX8_weight_1 ⟨Nat.le_of_ble_eq_true rfl, Nat.le_of_ble_eq_true rfl⟩) (fun r1 hr1 => ?_)
  rcases hr1 with hr1 | hr1
  · skip
    obtain ⟨rfl, h2, h3⟩ := hr1
    have h2 : 0 ≤ c0.toInt := h2
    have h3 : c0.toInt ≤ 3 := h3
    refine lv_if_eq (tgt := 17) hx hb dX8_weight_4 (by decide) (fun c4 => ?_) (fun c4 => ?_)
    · skip
      exact absurd c4 (by decide)
    · skip
      refine lv_iload_n hx hb dX8_weight_7 rfl (lv_at hl 2 rfl) ?_
      refine lv_iconst (v := 0) hx hb dX8_weight_8 (by decide) ?_
      refine lv_bipush (v := 99) hx hb dX8_weight_9 (by decide) ?_
      have hPc := hP.sub (ws' := []) [] rfl
      refine zc_i (va_runS (As := [.int n, .int 0, .int 99]) (rest := []) ⟨hx, hb, hml, hown, hg⟩ (c_X8_within l g n (0 : Int32) (99 : Int32) ) (va_cwS 3 hg (z_gS mm_407 mm_408 mm_108 mm_409) rfl rfl rfl (by decide +kernel) ⟨Nat.le_of_ble_eq_true rfl, Nat.le_of_ble_eq_true rfl⟩) (zR.pre [.int n, .int 0, .int 99] hPc hK hN) rfl rfl hl.1 rfl (lv_room (Nat.le_of_ble_eq_true rfl)) dX8_weight_11 ⟨Nat.le_of_ble_eq_true rfl, Nat.le_of_ble_eq_true rfl⟩) (fun r5 hr5 => ?_)
      rcases hr5 with hr5 | hr5
      · skip
        obtain ⟨rfl, h6, h7⟩ := hr5
        have h6 : (0 : Int) ≤ n.toInt := h6
        have h7 : n.toInt ≤ (99 : Int) := h7
        refine lv_if_ne (tgt := 19) hx hb dX8_weight_14 (by decide) (fun c8 => ?_) (fun c8 => ?_)
        · skip
          refine lv_aload_n hx hb dX8_weight_19 rfl (lv_at hl 0 rfl) ?_
          refine va_get (D := g.1) (ci := 8) (v := .ref aC) (C := RX8) (T := TX8) (N := 13) hx hb hg inG8 hown hK hP 0 rfl rfl 0 (by decide) (hg _ mm_360) (fun _ h9 => h9) rfl dX8_weight_20 ?_
          refine lv_iload_n hx hb dX8_weight_23 rfl (lv_at hl 1 rfl) ?_
          rcases z_c4 c0 (by omega) (by omega) with hs9 | hs9 | hs9 | hs9
          · skip
            have ehs9 : c0.toInt = 0 := by rw [hs9]; rfl
            have qhs9 : (0 : Int32).toInt = 0 := rfl
            subst hs9
            refine va_aldq hx hb hK hP 1 4 rfl rfl (z_in (by decide : (0 : Int32).toInt = 0) (by omega) (by omega)) dX8_weight_24 ?_
            refine W.eq (g2 := F0 m 25 ls [.ref c0_]) rfl ?_
            refine lv_iload_n hx hb dX8_weight_25 rfl (lv_at hl 2 rfl) ?_
            refine va_put (D := g.1) (ci := 3) (v := .int n) (ty := .int) (C := RX3) (T := TX3) (N := 6) hx hb hg inG3 tyX3 tyX3_ok nmX3 hown hK hP hD hS 2 rfl rfl 0 (by decide) (hg _ mm_316) (fun _ h9 => h9) rfl (by decide +kernel) rfl rfl (Nat.le_of_ble_eq_true rfl) dX8_weight_26 (fun H locs hP hD hS => ?_)
            have hP : zP g [(h0, .inr (8, [.ref aC, aW, aT, aB, aL, aG, aM, aA, aU, aE, aD, .int 0, .int 0])), (aC, .inl (g.2 4, 4, .inr (.inr (.inr (.inr (zS [some c0_, some c1_, some c2_, some c3_])))))), (c0_, .inr (3, [.int n, .ref c0_1, .ref c0_2, .ref c0_3, .ref c0_4, .int se0])), (c0_1, .inl (g.2 0, 32, .inl f0_1)), (c0_2, .inl (g.2 0, 33, .inl f0_2)), (c0_3, .inl (g.2 0, 33, .inl f0_3)), (c0_4, .inl (g.2 0, 16, .inl f0_4)), (c1_, .inr (3, [.int we1, .ref c1_1, .ref c1_2, .ref c1_3, .ref c1_4, .int se1])), (c1_1, .inl (g.2 0, 32, .inl f1_1)), (c1_2, .inl (g.2 0, 33, .inl f1_2)), (c1_3, .inl (g.2 0, 33, .inl f1_3)), (c1_4, .inl (g.2 0, 16, .inl f1_4)), (c2_, .inr (3, [.int we2, .ref c2_1, .ref c2_2, .ref c2_3, .ref c2_4, .int se2])), (c2_1, .inl (g.2 0, 32, .inl f2_1)), (c2_2, .inl (g.2 0, 33, .inl f2_2)), (c2_3, .inl (g.2 0, 33, .inl f2_3)), (c2_4, .inl (g.2 0, 16, .inl f2_4)), (c3_, .inr (3, [.int we3, .ref c3_1, .ref c3_2, .ref c3_3, .ref c3_4, .int se3])), (c3_1, .inl (g.2 0, 32, .inl f3_1)), (c3_2, .inl (g.2 0, 33, .inl f3_2)), (c3_3, .inl (g.2 0, 33, .inl f3_3)), (c3_4, .inl (g.2 0, 16, .inl f3_4))] H := hP
            have hD : va_D A [(h0, .inr (8, [.ref aC, aW, aT, aB, aL, aG, aM, aA, aU, aE, aD, .int 0, .int 0])), (aC, .inl (g.2 4, 4, .inr (.inr (.inr (.inr (zS [some c0_, some c1_, some c2_, some c3_])))))), (c0_, .inr (3, [.int n, .ref c0_1, .ref c0_2, .ref c0_3, .ref c0_4, .int se0])), (c0_1, .inl (g.2 0, 32, .inl f0_1)), (c0_2, .inl (g.2 0, 33, .inl f0_2)), (c0_3, .inl (g.2 0, 33, .inl f0_3)), (c0_4, .inl (g.2 0, 16, .inl f0_4)), (c1_, .inr (3, [.int we1, .ref c1_1, .ref c1_2, .ref c1_3, .ref c1_4, .int se1])), (c1_1, .inl (g.2 0, 32, .inl f1_1)), (c1_2, .inl (g.2 0, 33, .inl f1_2)), (c1_3, .inl (g.2 0, 33, .inl f1_3)), (c1_4, .inl (g.2 0, 16, .inl f1_4)), (c2_, .inr (3, [.int we2, .ref c2_1, .ref c2_2, .ref c2_3, .ref c2_4, .int se2])), (c2_1, .inl (g.2 0, 32, .inl f2_1)), (c2_2, .inl (g.2 0, 33, .inl f2_2)), (c2_3, .inl (g.2 0, 33, .inl f2_3)), (c2_4, .inl (g.2 0, 16, .inl f2_4)), (c3_, .inr (3, [.int we3, .ref c3_1, .ref c3_2, .ref c3_3, .ref c3_4, .int se3])), (c3_1, .inl (g.2 0, 32, .inl f3_1)), (c3_2, .inl (g.2 0, 33, .inl f3_2)), (c3_3, .inl (g.2 0, 33, .inl f3_3)), (c3_4, .inl (g.2 0, 16, .inl f3_4))] := hD
            refine lv_iconst (v := 1) hx hb dX8_weight_29 (by decide) ?_
            have hP9 := hP.sub (ws' := []) [] rfl
            have hD9 := hD.sub (ws' := []) [] (by decide) rfl
            refine W.widen (k := 0) (n := 0) (Nat.le_of_ble_eq_true rfl) (Nat.le_of_ble_eq_true rfl) ?_
            exact W.zret (v := 1) hx hb hr rfl (fun t ht hW => ⟨⟨1, (), rfl, by first | exact Or.inl ⟨rfl, by omega⟩ | exact Or.inr ⟨rfl, by omega⟩, ⟨by rw [ht]; exact hP9, hD9⟩⟩, hS.F ht⟩) hS.2.2 dX8_weight_30
          · skip
            have ehs9 : c0.toInt = 1 := by rw [hs9]; rfl
            have qhs9 : (1 : Int32).toInt = 1 := rfl
            subst hs9
            refine va_aldq hx hb hK hP 1 4 rfl rfl (z_in (by decide : (1 : Int32).toInt = 1) (by omega) (by omega)) dX8_weight_24 ?_
            refine W.eq (g2 := F0 m 25 ls [.ref c1_]) rfl ?_
            refine lv_iload_n hx hb dX8_weight_25 rfl (lv_at hl 2 rfl) ?_
            refine va_put (D := g.1) (ci := 3) (v := .int n) (ty := .int) (C := RX3) (T := TX3) (N := 6) hx hb hg inG3 tyX3 tyX3_ok nmX3 hown hK hP hD hS 7 rfl rfl 0 (by decide) (hg _ mm_316) (fun _ h9 => h9) rfl (by decide +kernel) rfl rfl (Nat.le_of_ble_eq_true rfl) dX8_weight_26 (fun H locs hP hD hS => ?_)
            have hP : zP g [(h0, .inr (8, [.ref aC, aW, aT, aB, aL, aG, aM, aA, aU, aE, aD, .int 0, .int 0])), (aC, .inl (g.2 4, 4, .inr (.inr (.inr (.inr (zS [some c0_, some c1_, some c2_, some c3_])))))), (c0_, .inr (3, [.int we0, .ref c0_1, .ref c0_2, .ref c0_3, .ref c0_4, .int se0])), (c0_1, .inl (g.2 0, 32, .inl f0_1)), (c0_2, .inl (g.2 0, 33, .inl f0_2)), (c0_3, .inl (g.2 0, 33, .inl f0_3)), (c0_4, .inl (g.2 0, 16, .inl f0_4)), (c1_, .inr (3, [.int n, .ref c1_1, .ref c1_2, .ref c1_3, .ref c1_4, .int se1])), (c1_1, .inl (g.2 0, 32, .inl f1_1)), (c1_2, .inl (g.2 0, 33, .inl f1_2)), (c1_3, .inl (g.2 0, 33, .inl f1_3)), (c1_4, .inl (g.2 0, 16, .inl f1_4)), (c2_, .inr (3, [.int we2, .ref c2_1, .ref c2_2, .ref c2_3, .ref c2_4, .int se2])), (c2_1, .inl (g.2 0, 32, .inl f2_1)), (c2_2, .inl (g.2 0, 33, .inl f2_2)), (c2_3, .inl (g.2 0, 33, .inl f2_3)), (c2_4, .inl (g.2 0, 16, .inl f2_4)), (c3_, .inr (3, [.int we3, .ref c3_1, .ref c3_2, .ref c3_3, .ref c3_4, .int se3])), (c3_1, .inl (g.2 0, 32, .inl f3_1)), (c3_2, .inl (g.2 0, 33, .inl f3_2)), (c3_3, .inl (g.2 0, 33, .inl f3_3)), (c3_4, .inl (g.2 0, 16, .inl f3_4))] H := hP
            have hD : va_D A [(h0, .inr (8, [.ref aC, aW, aT, aB, aL, aG, aM, aA, aU, aE, aD, .int 0, .int 0])), (aC, .inl (g.2 4, 4, .inr (.inr (.inr (.inr (zS [some c0_, some c1_, some c2_, some c3_])))))), (c0_, .inr (3, [.int we0, .ref c0_1, .ref c0_2, .ref c0_3, .ref c0_4, .int se0])), (c0_1, .inl (g.2 0, 32, .inl f0_1)), (c0_2, .inl (g.2 0, 33, .inl f0_2)), (c0_3, .inl (g.2 0, 33, .inl f0_3)), (c0_4, .inl (g.2 0, 16, .inl f0_4)), (c1_, .inr (3, [.int n, .ref c1_1, .ref c1_2, .ref c1_3, .ref c1_4, .int se1])), (c1_1, .inl (g.2 0, 32, .inl f1_1)), (c1_2, .inl (g.2 0, 33, .inl f1_2)), (c1_3, .inl (g.2 0, 33, .inl f1_3)), (c1_4, .inl (g.2 0, 16, .inl f1_4)), (c2_, .inr (3, [.int we2, .ref c2_1, .ref c2_2, .ref c2_3, .ref c2_4, .int se2])), (c2_1, .inl (g.2 0, 32, .inl f2_1)), (c2_2, .inl (g.2 0, 33, .inl f2_2)), (c2_3, .inl (g.2 0, 33, .inl f2_3)), (c2_4, .inl (g.2 0, 16, .inl f2_4)), (c3_, .inr (3, [.int we3, .ref c3_1, .ref c3_2, .ref c3_3, .ref c3_4, .int se3])), (c3_1, .inl (g.2 0, 32, .inl f3_1)), (c3_2, .inl (g.2 0, 33, .inl f3_2)), (c3_3, .inl (g.2 0, 33, .inl f3_3)), (c3_4, .inl (g.2 0, 16, .inl f3_4))] := hD
            refine lv_iconst (v := 1) hx hb dX8_weight_29 (by decide) ?_
            have hP9 := hP.sub (ws' := []) [] rfl
            have hD9 := hD.sub (ws' := []) [] (by decide) rfl
            refine W.widen (k := 0) (n := 0) (Nat.le_of_ble_eq_true rfl) (Nat.le_of_ble_eq_true rfl) ?_
            exact W.zret (v := 1) hx hb hr rfl (fun t ht hW => ⟨⟨1, (), rfl, by first | exact Or.inl ⟨rfl, by omega⟩ | exact Or.inr ⟨rfl, by omega⟩, ⟨by rw [ht]; exact hP9, hD9⟩⟩, hS.F ht⟩) hS.2.2 dX8_weight_30
          · skip
            have ehs9 : c0.toInt = 2 := by rw [hs9]; rfl
            have qhs9 : (2 : Int32).toInt = 2 := rfl
            subst hs9
            refine va_aldq hx hb hK hP 1 4 rfl rfl (z_in (by decide : (2 : Int32).toInt = 2) (by omega) (by omega)) dX8_weight_24 ?_
            refine W.eq (g2 := F0 m 25 ls [.ref c2_]) rfl ?_
            refine lv_iload_n hx hb dX8_weight_25 rfl (lv_at hl 2 rfl) ?_
            refine va_put (D := g.1) (ci := 3) (v := .int n) (ty := .int) (C := RX3) (T := TX3) (N := 6) hx hb hg inG3 tyX3 tyX3_ok nmX3 hown hK hP hD hS 12 rfl rfl 0 (by decide) (hg _ mm_316) (fun _ h9 => h9) rfl (by decide +kernel) rfl rfl (Nat.le_of_ble_eq_true rfl) dX8_weight_26 (fun H locs hP hD hS => ?_)
            have hP : zP g [(h0, .inr (8, [.ref aC, aW, aT, aB, aL, aG, aM, aA, aU, aE, aD, .int 0, .int 0])), (aC, .inl (g.2 4, 4, .inr (.inr (.inr (.inr (zS [some c0_, some c1_, some c2_, some c3_])))))), (c0_, .inr (3, [.int we0, .ref c0_1, .ref c0_2, .ref c0_3, .ref c0_4, .int se0])), (c0_1, .inl (g.2 0, 32, .inl f0_1)), (c0_2, .inl (g.2 0, 33, .inl f0_2)), (c0_3, .inl (g.2 0, 33, .inl f0_3)), (c0_4, .inl (g.2 0, 16, .inl f0_4)), (c1_, .inr (3, [.int we1, .ref c1_1, .ref c1_2, .ref c1_3, .ref c1_4, .int se1])), (c1_1, .inl (g.2 0, 32, .inl f1_1)), (c1_2, .inl (g.2 0, 33, .inl f1_2)), (c1_3, .inl (g.2 0, 33, .inl f1_3)), (c1_4, .inl (g.2 0, 16, .inl f1_4)), (c2_, .inr (3, [.int n, .ref c2_1, .ref c2_2, .ref c2_3, .ref c2_4, .int se2])), (c2_1, .inl (g.2 0, 32, .inl f2_1)), (c2_2, .inl (g.2 0, 33, .inl f2_2)), (c2_3, .inl (g.2 0, 33, .inl f2_3)), (c2_4, .inl (g.2 0, 16, .inl f2_4)), (c3_, .inr (3, [.int we3, .ref c3_1, .ref c3_2, .ref c3_3, .ref c3_4, .int se3])), (c3_1, .inl (g.2 0, 32, .inl f3_1)), (c3_2, .inl (g.2 0, 33, .inl f3_2)), (c3_3, .inl (g.2 0, 33, .inl f3_3)), (c3_4, .inl (g.2 0, 16, .inl f3_4))] H := hP
            have hD : va_D A [(h0, .inr (8, [.ref aC, aW, aT, aB, aL, aG, aM, aA, aU, aE, aD, .int 0, .int 0])), (aC, .inl (g.2 4, 4, .inr (.inr (.inr (.inr (zS [some c0_, some c1_, some c2_, some c3_])))))), (c0_, .inr (3, [.int we0, .ref c0_1, .ref c0_2, .ref c0_3, .ref c0_4, .int se0])), (c0_1, .inl (g.2 0, 32, .inl f0_1)), (c0_2, .inl (g.2 0, 33, .inl f0_2)), (c0_3, .inl (g.2 0, 33, .inl f0_3)), (c0_4, .inl (g.2 0, 16, .inl f0_4)), (c1_, .inr (3, [.int we1, .ref c1_1, .ref c1_2, .ref c1_3, .ref c1_4, .int se1])), (c1_1, .inl (g.2 0, 32, .inl f1_1)), (c1_2, .inl (g.2 0, 33, .inl f1_2)), (c1_3, .inl (g.2 0, 33, .inl f1_3)), (c1_4, .inl (g.2 0, 16, .inl f1_4)), (c2_, .inr (3, [.int n, .ref c2_1, .ref c2_2, .ref c2_3, .ref c2_4, .int se2])), (c2_1, .inl (g.2 0, 32, .inl f2_1)), (c2_2, .inl (g.2 0, 33, .inl f2_2)), (c2_3, .inl (g.2 0, 33, .inl f2_3)), (c2_4, .inl (g.2 0, 16, .inl f2_4)), (c3_, .inr (3, [.int we3, .ref c3_1, .ref c3_2, .ref c3_3, .ref c3_4, .int se3])), (c3_1, .inl (g.2 0, 32, .inl f3_1)), (c3_2, .inl (g.2 0, 33, .inl f3_2)), (c3_3, .inl (g.2 0, 33, .inl f3_3)), (c3_4, .inl (g.2 0, 16, .inl f3_4))] := hD
            refine lv_iconst (v := 1) hx hb dX8_weight_29 (by decide) ?_
            have hP9 := hP.sub (ws' := []) [] rfl
            have hD9 := hD.sub (ws' := []) [] (by decide) rfl
            refine W.widen (k := 0) (n := 0) (Nat.le_of_ble_eq_true rfl) (Nat.le_of_ble_eq_true rfl) ?_
            exact W.zret (v := 1) hx hb hr rfl (fun t ht hW => ⟨⟨1, (), rfl, by first | exact Or.inl ⟨rfl, by omega⟩ | exact Or.inr ⟨rfl, by omega⟩, ⟨by rw [ht]; exact hP9, hD9⟩⟩, hS.F ht⟩) hS.2.2 dX8_weight_30
          · skip
            have ehs9 : c0.toInt = 3 := by rw [hs9]; rfl
            have qhs9 : (3 : Int32).toInt = 3 := rfl
            subst hs9
            refine va_aldq hx hb hK hP 1 4 rfl rfl (z_in (by decide : (3 : Int32).toInt = 3) (by omega) (by omega)) dX8_weight_24 ?_
            refine W.eq (g2 := F0 m 25 ls [.ref c3_]) rfl ?_
            refine lv_iload_n hx hb dX8_weight_25 rfl (lv_at hl 2 rfl) ?_
            refine va_put (D := g.1) (ci := 3) (v := .int n) (ty := .int) (C := RX3) (T := TX3) (N := 6) hx hb hg inG3 tyX3 tyX3_ok nmX3 hown hK hP hD hS 17 rfl rfl 0 (by decide) (hg _ mm_316) (fun _ h9 => h9) rfl (by decide +kernel) rfl rfl (Nat.le_of_ble_eq_true rfl) dX8_weight_26 (fun H locs hP hD hS => ?_)
            have hP : zP g [(h0, .inr (8, [.ref aC, aW, aT, aB, aL, aG, aM, aA, aU, aE, aD, .int 0, .int 0])), (aC, .inl (g.2 4, 4, .inr (.inr (.inr (.inr (zS [some c0_, some c1_, some c2_, some c3_])))))), (c0_, .inr (3, [.int we0, .ref c0_1, .ref c0_2, .ref c0_3, .ref c0_4, .int se0])), (c0_1, .inl (g.2 0, 32, .inl f0_1)), (c0_2, .inl (g.2 0, 33, .inl f0_2)), (c0_3, .inl (g.2 0, 33, .inl f0_3)), (c0_4, .inl (g.2 0, 16, .inl f0_4)), (c1_, .inr (3, [.int we1, .ref c1_1, .ref c1_2, .ref c1_3, .ref c1_4, .int se1])), (c1_1, .inl (g.2 0, 32, .inl f1_1)), (c1_2, .inl (g.2 0, 33, .inl f1_2)), (c1_3, .inl (g.2 0, 33, .inl f1_3)), (c1_4, .inl (g.2 0, 16, .inl f1_4)), (c2_, .inr (3, [.int we2, .ref c2_1, .ref c2_2, .ref c2_3, .ref c2_4, .int se2])), (c2_1, .inl (g.2 0, 32, .inl f2_1)), (c2_2, .inl (g.2 0, 33, .inl f2_2)), (c2_3, .inl (g.2 0, 33, .inl f2_3)), (c2_4, .inl (g.2 0, 16, .inl f2_4)), (c3_, .inr (3, [.int n, .ref c3_1, .ref c3_2, .ref c3_3, .ref c3_4, .int se3])), (c3_1, .inl (g.2 0, 32, .inl f3_1)), (c3_2, .inl (g.2 0, 33, .inl f3_2)), (c3_3, .inl (g.2 0, 33, .inl f3_3)), (c3_4, .inl (g.2 0, 16, .inl f3_4))] H := hP
            have hD : va_D A [(h0, .inr (8, [.ref aC, aW, aT, aB, aL, aG, aM, aA, aU, aE, aD, .int 0, .int 0])), (aC, .inl (g.2 4, 4, .inr (.inr (.inr (.inr (zS [some c0_, some c1_, some c2_, some c3_])))))), (c0_, .inr (3, [.int we0, .ref c0_1, .ref c0_2, .ref c0_3, .ref c0_4, .int se0])), (c0_1, .inl (g.2 0, 32, .inl f0_1)), (c0_2, .inl (g.2 0, 33, .inl f0_2)), (c0_3, .inl (g.2 0, 33, .inl f0_3)), (c0_4, .inl (g.2 0, 16, .inl f0_4)), (c1_, .inr (3, [.int we1, .ref c1_1, .ref c1_2, .ref c1_3, .ref c1_4, .int se1])), (c1_1, .inl (g.2 0, 32, .inl f1_1)), (c1_2, .inl (g.2 0, 33, .inl f1_2)), (c1_3, .inl (g.2 0, 33, .inl f1_3)), (c1_4, .inl (g.2 0, 16, .inl f1_4)), (c2_, .inr (3, [.int we2, .ref c2_1, .ref c2_2, .ref c2_3, .ref c2_4, .int se2])), (c2_1, .inl (g.2 0, 32, .inl f2_1)), (c2_2, .inl (g.2 0, 33, .inl f2_2)), (c2_3, .inl (g.2 0, 33, .inl f2_3)), (c2_4, .inl (g.2 0, 16, .inl f2_4)), (c3_, .inr (3, [.int n, .ref c3_1, .ref c3_2, .ref c3_3, .ref c3_4, .int se3])), (c3_1, .inl (g.2 0, 32, .inl f3_1)), (c3_2, .inl (g.2 0, 33, .inl f3_2)), (c3_3, .inl (g.2 0, 33, .inl f3_3)), (c3_4, .inl (g.2 0, 16, .inl f3_4))] := hD
            refine lv_iconst (v := 1) hx hb dX8_weight_29 (by decide) ?_
            have hP9 := hP.sub (ws' := []) [] rfl
            have hD9 := hD.sub (ws' := []) [] (by decide) rfl
            refine W.widen (k := 0) (n := 0) (Nat.le_of_ble_eq_true rfl) (Nat.le_of_ble_eq_true rfl) ?_
            exact W.zret (v := 1) hx hb hr rfl (fun t ht hW => ⟨⟨1, (), rfl, by first | exact Or.inl ⟨rfl, by omega⟩ | exact Or.inr ⟨rfl, by omega⟩, ⟨by rw [ht]; exact hP9, hD9⟩⟩, hS.F ht⟩) hS.2.2 dX8_weight_30
        · skip
          exact absurd c8 (by decide)
      · skip
        obtain ⟨rfl, h10⟩ := hr5
        have h10 : ¬ ((0 : Int) ≤ n.toInt ∧ n.toInt ≤ (99 : Int)) := h10
        refine lv_if_ne (tgt := 19) hx hb dX8_weight_14 (by decide) (fun c11 => ?_) (fun c11 => ?_)
        · skip
          exact absurd c11 (by decide)
        · skip
          refine lv_iconst (v := 0) hx hb dX8_weight_17 (by decide) ?_
          have hP9 := hP.sub (ws' := []) [] rfl
          have hD9 := hD.sub (ws' := []) [] (by decide) rfl
          refine W.widen (k := 0) (n := 0) (Nat.le_of_ble_eq_true rfl) (Nat.le_of_ble_eq_true rfl) ?_
          exact W.zret (v := 0) hx hb hr rfl (fun t ht hW => ⟨⟨0, (), rfl, by first | exact Or.inl ⟨rfl, by omega⟩ | exact Or.inr ⟨rfl, by omega⟩, ⟨by rw [ht]; exact hP9, hD9⟩⟩, hS.F ht⟩) hS.2.2 dX8_weight_18
  · skip
    obtain ⟨rfl, h12⟩ := hr1
    have h12 : ¬ (0 ≤ c0.toInt ∧ c0.toInt ≤ 3) := h12
    refine lv_if_eq (tgt := 17) hx hb dX8_weight_4 (by decide) (fun c13 => ?_) (fun c13 => ?_)
    · skip
      refine lv_iconst (v := 0) hx hb dX8_weight_17 (by decide) ?_
      have hP9 := hP.sub (ws' := []) [] rfl
      have hD9 := hD.sub (ws' := []) [] (by decide) rfl
      refine W.widen (k := 0) (n := 0) (Nat.le_of_ble_eq_true rfl) (Nat.le_of_ble_eq_true rfl) ?_
      exact W.zret (v := 0) hx hb hr rfl (fun t ht hW => ⟨⟨0, (), rfl, by first | exact Or.inl ⟨rfl, by omega⟩ | exact Or.inr ⟨rfl, by omega⟩, ⟨by rw [ht]; exact hP9, hD9⟩⟩, hS.F ht⟩) hS.2.2 dX8_weight_18
    · skip
      exact absurd c13 (by decide)

set_option maxHeartbeats 4000000 in
set_option maxRecDepth 100000 in
theorem c_X7_append (l : Launch) (g : zG) (sz : Nat) (h0 : Nat) (a1 : Nat) (k : Nat) (f1 : Nat → Int32) (x : Int32) (hk : k + 4 ≤ 200) : Met l yX7_append (zW yX7_append cX7_append 3 none) ({ frames := 0, cells := 0, slots := 0, locals := 0 }) (va_Pc [.ref h0, .int x] (zA g [(h0, .inr (7, [.int (nI k), .ref a1])), (a1, .inl (g.2 0, 200, .inl f1))] sz)) (va_Qv (fun (_ : Unit) => True) (fun _ t => ∃ (z1 : Nat → Int32), zP g [(h0, .inr (7, [.int (nI (k + 4)), .ref a1])), (a1, .inl (g.2 0, 200, .inl z1))] t.heap ∧ va_D (va_A [(h0, .inr (7, [.int (nI k), .ref a1])), (a1, .inl (g.2 0, 200, .inl f1))] sz) [(h0, .inr (7, [.int (nI (k + 4)), .ref a1])), (a1, .inl (g.2 0, 200, .inl z1))]) (va_A [(h0, .inr (7, [.int (nI k), .ref a1])), (a1, .inl (g.2 0, 200, .inl f1))] sz)) 0 0 (va_A [(h0, .inr (7, [.int (nI k), .ref a1])), (a1, .inl (g.2 0, 200, .inl f1))] sz) := by
  refine Met.ofW (cc := cX7_append) (maxL := 3) (ret := none) (by decide) rfl ?_
  intro p e s m args below meth c s₁ B hml hv
  obtain ⟨rfl, hsz, hP, hK, hD0, hN⟩ := hv
  have hx := B.exec
  have hb := B.bytes
  have hr := B.returns
  have hg := zW.law (atoms_spec (ws := (zW yX7_append cX7_append 3 none)) B.pre)
  have hown : s.vm.findClass RX7 = some m.cls := findClass_of_methodNamed B.named
  have hlocks := B.notSynchronized
  subst hsz
  have hD := hD0.self (sz := s.heap.size)
  generalize hAe : va_A [(h0, .inr (7, [.int (nI k), .ref a1])), (a1, .inl (g.2 0, 200, .inl f1))] s.heap.size = A at hD ⊢
  have hA : ∀ q : Nat, s.heap.size ≤ q → A q := fun q h => by rw [← hAe]; exact Or.inr h
  have hS : va_S A s.heap s.heap [] := va_S.rf
  have hl := lv_entry ([.ref h0, .int x]) (n := 3) (Nat.le_of_ble_eq_true rfl)
  rw [lg_entry_eq]
  generalize (lg_sl ([.ref h0, .int x]) ++ List.replicate (3 - (lg_sl ([.ref h0, .int x])).length) Slot.unset).toArray = ls at hl ⊢
  have hl : lv_has ls 3 [(0, .ref h0), (1, .int x)] := hl
  refine lv_bipush (v := 24) hx hb dX7_append_0 (by decide) ?_
  refine lv_istore_n (lv' := [(2, .int 24), (0, .ref h0), (1, .int x)]) hx hb dX7_append_2 rfl hl (by decide) rfl (fun ls hl => ?_)
  refine lv_iload_n hx hb dX7_append_3 rfl (lv_at hl 0 rfl) ?_
  refine lv_if_lt (tgt := 49) hx hb dX7_append_4 (by decide) (fun c1 => ?_) (fun c1 => ?_)
  · skip
    exact absurd c1 (by decide)
  · skip
    refine lv_aload_n hx hb dX7_append_7 rfl (lv_at hl 1 rfl) ?_
    refine va_get (D := g.1) (ci := 7) (v := .int (nI k)) (C := RX7) (T := TX7) (N := 2) hx hb hg inG7 hown hK hP 0 rfl rfl 0 (by decide) (hg _ mm_136) (fun _ h9 => h9) rfl dX7_append_8 ?_
    refine lv_sipush (v := 200) hx hb dX7_append_11 (by decide) ?_
    refine lv_icmp_ge (tgt := 49) hx hb dX7_append_14 (by decide) (fun c2 => ?_) (fun c2 => ?_)
    · skip
      have c2 : 200 ≤ ((k : Nat) : Int) := (z_le (by decide : (200 : Int32).toInt = 200) (nI_toInt (by omega))).mp c2
      exfalso
      omega
    · skip
      have c2 : ¬ (200 ≤ ((k : Nat) : Int)) := fun q => c2 ((z_le (by decide : (200 : Int32).toInt = 200) (nI_toInt (by omega))).mpr q)
      refine lv_aload_n hx hb dX7_append_17 rfl (lv_at hl 1 rfl) ?_
      refine va_get (D := g.1) (ci := 7) (v := .ref a1) (C := RX7) (T := TX7) (N := 2) hx hb hg inG7 hown hK hP 0 rfl rfl 1 (by decide) (hg _ mm_138) (fun _ h9 => h9) rfl dX7_append_18 ?_
      refine lv_aload_n hx hb dX7_append_21 rfl (lv_at hl 1 rfl) ?_
      refine va_get (D := g.1) (ci := 7) (v := .int (nI k)) (C := RX7) (T := TX7) (N := 2) hx hb hg inG7 hown hK hP 0 rfl rfl 0 (by decide) (hg _ mm_136) (fun _ h9 => h9) rfl dX7_append_22 ?_
      refine lv_iload_n hx hb dX7_append_25 rfl (lv_at hl 2 rfl) ?_
      refine lv_iload_n hx hb dX7_append_26 rfl (lv_at hl 0 rfl) ?_
      refine lv_iushr hx hb dX7_append_27 rfl ?_
      refine lv_topi (fun x3 ex3 => ?_)
      refine lv_sipush (v := 255) hx hb dX7_append_28 (by decide) ?_
      refine lv_iand hx hb dX7_append_31 ?_
      refine lv_topi (fun x4 ex4 => ?_)
      refine va_iast hx hb hK hP hD hS 1 0 rfl rfl (z_in (nI_toInt (by omega)) (by omega) (by omega)) dX7_append_32 (fun H locs hP hD hS => ?_)
      rw [show ((nI k) : Int32).toNatClampNeg = k from (nI_clamp (by omega))] at hP hD
      have hP : zP g [(h0, .inr (7, [.int (nI k), .ref a1])), (a1, .inl (g.2 0, 200, .inl (upd f1 k x4)))] H := hP
      have hD : va_D A [(h0, .inr (7, [.int (nI k), .ref a1])), (a1, .inl (g.2 0, 200, .inl (upd f1 k x4)))] := hD
      refine lv_aload_n hx hb dX7_append_33 rfl (lv_at hl 1 rfl) ?_
      refine lv_dup hx hb dX7_append_34 rfl ?_
      refine va_get (D := g.1) (ci := 7) (v := .int (nI k)) (C := RX7) (T := TX7) (N := 2) hx hb hg inG7 hown hK hP 0 rfl rfl 0 (by decide) (hg _ mm_136) (fun _ h9 => h9) rfl dX7_append_35 ?_
      refine lv_iconst (v := 1) hx hb dX7_append_38 (by decide) ?_
      refine lv_iadd hx hb dX7_append_39 ?_
      refine lv_topi (fun x5 ex5 => ?_)
      obtain rfl : x5 = nI (k + 1) := ex5.trans (nI_1 k)
      refine va_put (D := g.1) (ci := 7) (v := .int (nI (k + 1))) (ty := .int) (C := RX7) (T := TX7) (N := 2) hx hb hg inG7 tyX7 tyX7_ok nmX7 hown hK hP hD hS 0 rfl rfl 0 (by decide) (hg _ mm_136) (fun _ h9 => h9) rfl (by decide +kernel) rfl rfl (Nat.le_of_ble_eq_true rfl) dX7_append_40 (fun H locs hP hD hS => ?_)
      have hP : zP g [(h0, .inr (7, [.int (nI (k + 1)), .ref a1])), (a1, .inl (g.2 0, 200, .inl (upd f1 k x4)))] H := hP
      have hD : va_D A [(h0, .inr (7, [.int (nI (k + 1)), .ref a1])), (a1, .inl (g.2 0, 200, .inl (upd f1 k x4)))] := hD
      refine lv_iinc (v := 16) (lv' := [(2, .int 16), (0, .ref h0), (1, .int x)]) hx hb dX7_append_43 hl (k := 0) rfl (by decide) (by decide) rfl (fun ls hl => ?_)
      refine lv_goto (tgt := 3) hx hb dX7_append_46 (by decide) ?_
      refine lv_iload_n hx hb dX7_append_3 rfl (lv_at hl 0 rfl) ?_
      refine lv_if_lt (tgt := 49) hx hb dX7_append_4 (by decide) (fun c6 => ?_) (fun c6 => ?_)
      · skip
        exact absurd c6 (by decide)
      · skip
        refine lv_aload_n hx hb dX7_append_7 rfl (lv_at hl 1 rfl) ?_
        refine va_get (D := g.1) (ci := 7) (v := .int (nI (k + 1))) (C := RX7) (T := TX7) (N := 2) hx hb hg inG7 hown hK hP 0 rfl rfl 0 (by decide) (hg _ mm_136) (fun _ h9 => h9) rfl dX7_append_8 ?_
        refine lv_sipush (v := 200) hx hb dX7_append_11 (by decide) ?_
        refine lv_icmp_ge (tgt := 49) hx hb dX7_append_14 (by decide) (fun c7 => ?_) (fun c7 => ?_)
        · skip
          have c7 : 200 ≤ ((k + 1 : Nat) : Int) := (z_le (by decide : (200 : Int32).toInt = 200) (nI_toInt (by omega))).mp c7
          exfalso
          omega
        · skip
          have c7 : ¬ (200 ≤ ((k + 1 : Nat) : Int)) := fun q => c7 ((z_le (by decide : (200 : Int32).toInt = 200) (nI_toInt (by omega))).mpr q)
          refine lv_aload_n hx hb dX7_append_17 rfl (lv_at hl 1 rfl) ?_
          refine va_get (D := g.1) (ci := 7) (v := .ref a1) (C := RX7) (T := TX7) (N := 2) hx hb hg inG7 hown hK hP 0 rfl rfl 1 (by decide) (hg _ mm_138) (fun _ h9 => h9) rfl dX7_append_18 ?_
          refine lv_aload_n hx hb dX7_append_21 rfl (lv_at hl 1 rfl) ?_
          refine va_get (D := g.1) (ci := 7) (v := .int (nI (k + 1))) (C := RX7) (T := TX7) (N := 2) hx hb hg inG7 hown hK hP 0 rfl rfl 0 (by decide) (hg _ mm_136) (fun _ h9 => h9) rfl dX7_append_22 ?_
          refine lv_iload_n hx hb dX7_append_25 rfl (lv_at hl 2 rfl) ?_
          refine lv_iload_n hx hb dX7_append_26 rfl (lv_at hl 0 rfl) ?_
          refine lv_iushr hx hb dX7_append_27 rfl ?_
          refine lv_topi (fun x8 ex8 => ?_)
          refine lv_sipush (v := 255) hx hb dX7_append_28 (by decide) ?_
          refine lv_iand hx hb dX7_append_31 ?_
          refine lv_topi (fun x9 ex9 => ?_)
          refine va_iast hx hb hK hP hD hS 1 0 rfl rfl (z_in (nI_toInt (by omega)) (by omega) (by omega)) dX7_append_32 (fun H locs hP hD hS => ?_)
          rw [show ((nI (k + 1)) : Int32).toNatClampNeg = (k + 1) from (nI_clamp (by omega))] at hP hD
          have hP : zP g [(h0, .inr (7, [.int (nI (k + 1)), .ref a1])), (a1, .inl (g.2 0, 200, .inl (upd (upd f1 k x4) (k + 1) x9)))] H := hP
          have hD : va_D A [(h0, .inr (7, [.int (nI (k + 1)), .ref a1])), (a1, .inl (g.2 0, 200, .inl (upd (upd f1 k x4) (k + 1) x9)))] := hD
          refine lv_aload_n hx hb dX7_append_33 rfl (lv_at hl 1 rfl) ?_
          refine lv_dup hx hb dX7_append_34 rfl ?_
          refine va_get (D := g.1) (ci := 7) (v := .int (nI (k + 1))) (C := RX7) (T := TX7) (N := 2) hx hb hg inG7 hown hK hP 0 rfl rfl 0 (by decide) (hg _ mm_136) (fun _ h9 => h9) rfl dX7_append_35 ?_
          refine lv_iconst (v := 1) hx hb dX7_append_38 (by decide) ?_
          refine lv_iadd hx hb dX7_append_39 ?_
          refine lv_topi (fun x10 ex10 => ?_)
          obtain rfl : x10 = nI (k + 1 + 1) := ex10.trans (nI_1 (k + 1))
          refine va_put (D := g.1) (ci := 7) (v := .int (nI (k + 1 + 1))) (ty := .int) (C := RX7) (T := TX7) (N := 2) hx hb hg inG7 tyX7 tyX7_ok nmX7 hown hK hP hD hS 0 rfl rfl 0 (by decide) (hg _ mm_136) (fun _ h9 => h9) rfl (by decide +kernel) rfl rfl (Nat.le_of_ble_eq_true rfl) dX7_append_40 (fun H locs hP hD hS => ?_)
          have hP : zP g [(h0, .inr (7, [.int (nI (k + 1 + 1)), .ref a1])), (a1, .inl (g.2 0, 200, .inl (upd (upd f1 k x4) (k + 1) x9)))] H := hP
          have hD : va_D A [(h0, .inr (7, [.int (nI (k + 1 + 1)), .ref a1])), (a1, .inl (g.2 0, 200, .inl (upd (upd f1 k x4) (k + 1) x9)))] := hD
          refine lv_iinc (v := 8) (lv' := [(2, .int 8), (0, .ref h0), (1, .int x)]) hx hb dX7_append_43 hl (k := 0) rfl (by decide) (by decide) rfl (fun ls hl => ?_)
          refine lv_goto (tgt := 3) hx hb dX7_append_46 (by decide) ?_
          refine lv_iload_n hx hb dX7_append_3 rfl (lv_at hl 0 rfl) ?_
          refine lv_if_lt (tgt := 49) hx hb dX7_append_4 (by decide) (fun c11 => ?_) (fun c11 => ?_)
          · skip
            exact absurd c11 (by decide)
          · skip
            refine lv_aload_n hx hb dX7_append_7 rfl (lv_at hl 1 rfl) ?_
            refine va_get (D := g.1) (ci := 7) (v := .int (nI (k + 1 + 1))) (C := RX7) (T := TX7) (N := 2) hx hb hg inG7 hown hK hP 0 rfl rfl 0 (by decide) (hg _ mm_136) (fun _ h9 => h9) rfl dX7_append_8 ?_
            refine lv_sipush (v := 200) hx hb dX7_append_11 (by decide) ?_
            refine lv_icmp_ge (tgt := 49) hx hb dX7_append_14 (by decide) (fun c12 => ?_) (fun c12 => ?_)
            · skip
              have c12 : 200 ≤ ((k + 1 + 1 : Nat) : Int) := (z_le (by decide : (200 : Int32).toInt = 200) (nI_toInt (by omega))).mp c12
              exfalso
              omega
            · skip
              have c12 : ¬ (200 ≤ ((k + 1 + 1 : Nat) : Int)) := fun q => c12 ((z_le (by decide : (200 : Int32).toInt = 200) (nI_toInt (by omega))).mpr q)
              refine lv_aload_n hx hb dX7_append_17 rfl (lv_at hl 1 rfl) ?_
              refine va_get (D := g.1) (ci := 7) (v := .ref a1) (C := RX7) (T := TX7) (N := 2) hx hb hg inG7 hown hK hP 0 rfl rfl 1 (by decide) (hg _ mm_138) (fun _ h9 => h9) rfl dX7_append_18 ?_
              refine lv_aload_n hx hb dX7_append_21 rfl (lv_at hl 1 rfl) ?_
              refine va_get (D := g.1) (ci := 7) (v := .int (nI (k + 1 + 1))) (C := RX7) (T := TX7) (N := 2) hx hb hg inG7 hown hK hP 0 rfl rfl 0 (by decide) (hg _ mm_136) (fun _ h9 => h9) rfl dX7_append_22 ?_
              refine lv_iload_n hx hb dX7_append_25 rfl (lv_at hl 2 rfl) ?_
              refine lv_iload_n hx hb dX7_append_26 rfl (lv_at hl 0 rfl) ?_
              refine lv_iushr hx hb dX7_append_27 rfl ?_
              refine lv_topi (fun x13 ex13 => ?_)
              refine lv_sipush (v := 255) hx hb dX7_append_28 (by decide) ?_
              refine lv_iand hx hb dX7_append_31 ?_
              refine lv_topi (fun x14 ex14 => ?_)
              refine va_iast hx hb hK hP hD hS 1 0 rfl rfl (z_in (nI_toInt (by omega)) (by omega) (by omega)) dX7_append_32 (fun H locs hP hD hS => ?_)
              rw [show ((nI (k + 1 + 1)) : Int32).toNatClampNeg = (k + 1 + 1) from (nI_clamp (by omega))] at hP hD
              have hP : zP g [(h0, .inr (7, [.int (nI (k + 1 + 1)), .ref a1])), (a1, .inl (g.2 0, 200, .inl (upd (upd (upd f1 k x4) (k + 1) x9) (k + 1 + 1) x14)))] H := hP
              have hD : va_D A [(h0, .inr (7, [.int (nI (k + 1 + 1)), .ref a1])), (a1, .inl (g.2 0, 200, .inl (upd (upd (upd f1 k x4) (k + 1) x9) (k + 1 + 1) x14)))] := hD
              refine lv_aload_n hx hb dX7_append_33 rfl (lv_at hl 1 rfl) ?_
              refine lv_dup hx hb dX7_append_34 rfl ?_
              refine va_get (D := g.1) (ci := 7) (v := .int (nI (k + 1 + 1))) (C := RX7) (T := TX7) (N := 2) hx hb hg inG7 hown hK hP 0 rfl rfl 0 (by decide) (hg _ mm_136) (fun _ h9 => h9) rfl dX7_append_35 ?_
              refine lv_iconst (v := 1) hx hb dX7_append_38 (by decide) ?_
              refine lv_iadd hx hb dX7_append_39 ?_
              refine lv_topi (fun x15 ex15 => ?_)
              obtain rfl : x15 = nI (k + 1 + 1 + 1) := ex15.trans (nI_1 (k + 1 + 1))
              refine va_put (D := g.1) (ci := 7) (v := .int (nI (k + 1 + 1 + 1))) (ty := .int) (C := RX7) (T := TX7) (N := 2) hx hb hg inG7 tyX7 tyX7_ok nmX7 hown hK hP hD hS 0 rfl rfl 0 (by decide) (hg _ mm_136) (fun _ h9 => h9) rfl (by decide +kernel) rfl rfl (Nat.le_of_ble_eq_true rfl) dX7_append_40 (fun H locs hP hD hS => ?_)
              have hP : zP g [(h0, .inr (7, [.int (nI (k + 1 + 1 + 1)), .ref a1])), (a1, .inl (g.2 0, 200, .inl (upd (upd (upd f1 k x4) (k + 1) x9) (k + 1 + 1) x14)))] H := hP
              have hD : va_D A [(h0, .inr (7, [.int (nI (k + 1 + 1 + 1)), .ref a1])), (a1, .inl (g.2 0, 200, .inl (upd (upd (upd f1 k x4) (k + 1) x9) (k + 1 + 1) x14)))] := hD
              refine lv_iinc (v := 0) (lv' := [(2, .int 0), (0, .ref h0), (1, .int x)]) hx hb dX7_append_43 hl (k := 0) rfl (by decide) (by decide) rfl (fun ls hl => ?_)
              refine lv_goto (tgt := 3) hx hb dX7_append_46 (by decide) ?_
              refine lv_iload_n hx hb dX7_append_3 rfl (lv_at hl 0 rfl) ?_
              refine lv_if_lt (tgt := 49) hx hb dX7_append_4 (by decide) (fun c16 => ?_) (fun c16 => ?_)
              · skip
                exact absurd c16 (by decide)
              · skip
                refine lv_aload_n hx hb dX7_append_7 rfl (lv_at hl 1 rfl) ?_
                refine va_get (D := g.1) (ci := 7) (v := .int (nI (k + 1 + 1 + 1))) (C := RX7) (T := TX7) (N := 2) hx hb hg inG7 hown hK hP 0 rfl rfl 0 (by decide) (hg _ mm_136) (fun _ h9 => h9) rfl dX7_append_8 ?_
                refine lv_sipush (v := 200) hx hb dX7_append_11 (by decide) ?_
                refine lv_icmp_ge (tgt := 49) hx hb dX7_append_14 (by decide) (fun c17 => ?_) (fun c17 => ?_)
                · skip
                  have c17 : 200 ≤ ((k + 1 + 1 + 1 : Nat) : Int) := (z_le (by decide : (200 : Int32).toInt = 200) (nI_toInt (by omega))).mp c17
                  exfalso
                  omega
                · skip
                  have c17 : ¬ (200 ≤ ((k + 1 + 1 + 1 : Nat) : Int)) := fun q => c17 ((z_le (by decide : (200 : Int32).toInt = 200) (nI_toInt (by omega))).mpr q)
                  refine lv_aload_n hx hb dX7_append_17 rfl (lv_at hl 1 rfl) ?_
                  refine va_get (D := g.1) (ci := 7) (v := .ref a1) (C := RX7) (T := TX7) (N := 2) hx hb hg inG7 hown hK hP 0 rfl rfl 1 (by decide) (hg _ mm_138) (fun _ h9 => h9) rfl dX7_append_18 ?_
                  refine lv_aload_n hx hb dX7_append_21 rfl (lv_at hl 1 rfl) ?_
                  refine va_get (D := g.1) (ci := 7) (v := .int (nI (k + 1 + 1 + 1))) (C := RX7) (T := TX7) (N := 2) hx hb hg inG7 hown hK hP 0 rfl rfl 0 (by decide) (hg _ mm_136) (fun _ h9 => h9) rfl dX7_append_22 ?_
                  refine lv_iload_n hx hb dX7_append_25 rfl (lv_at hl 2 rfl) ?_
                  refine lv_iload_n hx hb dX7_append_26 rfl (lv_at hl 0 rfl) ?_
                  refine lv_iushr hx hb dX7_append_27 rfl ?_
                  refine lv_topi (fun x18 ex18 => ?_)
                  refine lv_sipush (v := 255) hx hb dX7_append_28 (by decide) ?_
                  refine lv_iand hx hb dX7_append_31 ?_
                  refine lv_topi (fun x19 ex19 => ?_)
                  refine va_iast hx hb hK hP hD hS 1 0 rfl rfl (z_in (nI_toInt (by omega)) (by omega) (by omega)) dX7_append_32 (fun H locs hP hD hS => ?_)
                  rw [show ((nI (k + 1 + 1 + 1)) : Int32).toNatClampNeg = (k + 1 + 1 + 1) from (nI_clamp (by omega))] at hP hD
                  have hP : zP g [(h0, .inr (7, [.int (nI (k + 1 + 1 + 1)), .ref a1])), (a1, .inl (g.2 0, 200, .inl (upd (upd (upd (upd f1 k x4) (k + 1) x9) (k + 1 + 1) x14) (k + 1 + 1 + 1) x19)))] H := hP
                  have hD : va_D A [(h0, .inr (7, [.int (nI (k + 1 + 1 + 1)), .ref a1])), (a1, .inl (g.2 0, 200, .inl (upd (upd (upd (upd f1 k x4) (k + 1) x9) (k + 1 + 1) x14) (k + 1 + 1 + 1) x19)))] := hD
                  refine lv_aload_n hx hb dX7_append_33 rfl (lv_at hl 1 rfl) ?_
                  refine lv_dup hx hb dX7_append_34 rfl ?_
                  refine va_get (D := g.1) (ci := 7) (v := .int (nI (k + 1 + 1 + 1))) (C := RX7) (T := TX7) (N := 2) hx hb hg inG7 hown hK hP 0 rfl rfl 0 (by decide) (hg _ mm_136) (fun _ h9 => h9) rfl dX7_append_35 ?_
                  refine lv_iconst (v := 1) hx hb dX7_append_38 (by decide) ?_
                  refine lv_iadd hx hb dX7_append_39 ?_
                  refine lv_topi (fun x20 ex20 => ?_)
                  obtain rfl : x20 = nI (k + 1 + 1 + 1 + 1) := ex20.trans (nI_1 (k + 1 + 1 + 1))
                  refine va_put (D := g.1) (ci := 7) (v := .int (nI (k + 1 + 1 + 1 + 1))) (ty := .int) (C := RX7) (T := TX7) (N := 2) hx hb hg inG7 tyX7 tyX7_ok nmX7 hown hK hP hD hS 0 rfl rfl 0 (by decide) (hg _ mm_136) (fun _ h9 => h9) rfl (by decide +kernel) rfl rfl (Nat.le_of_ble_eq_true rfl) dX7_append_40 (fun H locs hP hD hS => ?_)
                  have hP : zP g [(h0, .inr (7, [.int (nI (k + 1 + 1 + 1 + 1)), .ref a1])), (a1, .inl (g.2 0, 200, .inl (upd (upd (upd (upd f1 k x4) (k + 1) x9) (k + 1 + 1) x14) (k + 1 + 1 + 1) x19)))] H := hP
                  have hD : va_D A [(h0, .inr (7, [.int (nI (k + 1 + 1 + 1 + 1)), .ref a1])), (a1, .inl (g.2 0, 200, .inl (upd (upd (upd (upd f1 k x4) (k + 1) x9) (k + 1 + 1) x14) (k + 1 + 1 + 1) x19)))] := hD
                  refine lv_iinc (v := (-8)) (lv' := [(2, .int (-8)), (0, .ref h0), (1, .int x)]) hx hb dX7_append_43 hl (k := 0) rfl (by decide) (by decide) rfl (fun ls hl => ?_)
                  refine lv_goto (tgt := 3) hx hb dX7_append_46 (by decide) ?_
                  refine lv_iload_n hx hb dX7_append_3 rfl (lv_at hl 0 rfl) ?_
                  refine lv_if_lt (tgt := 49) hx hb dX7_append_4 (by decide) (fun c21 => ?_) (fun c21 => ?_)
                  · skip
                    have hP9 := hP.sub (ws' := [(h0, .inr (7, [.int (nI (k + 4)), .ref a1])), (a1, .inl (g.2 0, 200, .inl (upd (upd (upd (upd f1 k x4) (k + 1) x9) (k + 1 + 1) x14) (k + 1 + 1 + 1) x19)))]) [0, 1] rfl
                    have hD9 := hD.sub (ws' := [(h0, .inr (7, [.int (nI (k + 4)), .ref a1])), (a1, .inl (g.2 0, 200, .inl (upd (upd (upd (upd f1 k x4) (k + 1) x9) (k + 1 + 1) x14) (k + 1 + 1 + 1) x19)))]) [0, 1] (by decide) rfl
                    refine W.widen (k := 0) (n := 0) (Nat.le_of_ble_eq_true rfl) (Nat.le_of_ble_eq_true rfl) ?_
                    exact W.vret hx hb hr (fun t ht hW => ⟨⟨(), rfl, trivial, ⟨(upd (upd (upd (upd f1 k x4) (k + 1) x9) (k + 1 + 1) x14) (k + 1 + 1 + 1) x19), by rw [ht]; exact hP9, hD9⟩⟩, hS.F ht⟩) hS.2.2 dX7_append_49
                  · skip
                    exact absurd c21 (by decide)

set_option maxHeartbeats 4000000 in
set_option maxRecDepth 100000 in
theorem c_X8_feed (l : Launch) (g : zG) (sz : Nat) (h0 : Nat) (aC : Value) (aW : Value) (aT : Nat) (aB : Value) (aL : Value) (aG : Value) (aM : Value) (aA : Value) (aU : Value) (aE : Value) (aD : Value) (aTb : Nat) (ft : Nat → Int32) (a : Int32) (b : Int32) (c0 : Int32) (d0 : Int32) (e0 : Int32) : Met l yX8_feed (zW yX8_feed cX8_feed 6 (some .int)) ({ frames := 1, cells := 0, slots := 0, locals := 22 }) (va_Pc [.ref h0, .int a, .int b, .int c0, .int d0, .int e0] (zA g [(h0, .inr (8, [aC, aW, .ref aT, aB, aL, aG, aM, aA, aU, aE, aD, .int 0, .int 0])), (aT, .inr (7, [.int 0, .ref aTb])), (aTb, .inl (g.2 0, 200, .inl ft))] sz)) (va_Qi (fun (r : Int32) (_ : Unit) => (r = 20)) (fun _ t => zP g [] t.heap ∧ va_D (va_A [(h0, .inr (8, [aC, aW, .ref aT, aB, aL, aG, aM, aA, aU, aE, aD, .int 0, .int 0])), (aT, .inr (7, [.int 0, .ref aTb])), (aTb, .inl (g.2 0, 200, .inl ft))] sz) []) (va_A [(h0, .inr (8, [aC, aW, .ref aT, aB, aL, aG, aM, aA, aU, aE, aD, .int 0, .int 0])), (aT, .inr (7, [.int 0, .ref aTb])), (aTb, .inl (g.2 0, 200, .inl ft))] sz)) 0 0 (va_A [(h0, .inr (8, [aC, aW, .ref aT, aB, aL, aG, aM, aA, aU, aE, aD, .int 0, .int 0])), (aT, .inr (7, [.int 0, .ref aTb])), (aTb, .inl (g.2 0, 200, .inl ft))] sz) := by
  refine Met.ofW (cc := cX8_feed) (maxL := 6) (ret := (some .int)) (by decide) rfl ?_
  intro p e s m args below meth c s₁ B hml hv
  obtain ⟨rfl, hsz, hP, hK, hD0, hN⟩ := hv
  have hx := B.exec
  have hb := B.bytes
  have hr := B.returns
  have hg := zW.law (atoms_spec (ws := (zW yX8_feed cX8_feed 6 (some .int))) B.pre)
  have hown : s.vm.findClass RX8 = some m.cls := findClass_of_methodNamed B.named
  have hlocks := B.notSynchronized
  subst hsz
  have hD := hD0.self (sz := s.heap.size)
  generalize hAe : va_A [(h0, .inr (8, [aC, aW, .ref aT, aB, aL, aG, aM, aA, aU, aE, aD, .int 0, .int 0])), (aT, .inr (7, [.int 0, .ref aTb])), (aTb, .inl (g.2 0, 200, .inl ft))] s.heap.size = A at hD ⊢
  have hA : ∀ q : Nat, s.heap.size ≤ q → A q := fun q h => by rw [← hAe]; exact Or.inr h
  have hS : va_S A s.heap s.heap [] := va_S.rf
  have hl := lv_entry ([.ref h0, .int a, .int b, .int c0, .int d0, .int e0]) (n := 6) (Nat.le_of_ble_eq_true rfl)
  rw [lg_entry_eq]
  generalize (lg_sl ([.ref h0, .int a, .int b, .int c0, .int d0, .int e0]) ++ List.replicate (6 - (lg_sl ([.ref h0, .int a, .int b, .int c0, .int d0, .int e0])).length) Slot.unset).toArray = ls at hl ⊢
  have hl : lv_has ls 6 [(0, .ref h0), (1, .int a), (2, .int b), (3, .int c0), (4, .int d0), (5, .int e0)] := hl
  refine lv_aload_n hx hb dX8_feed_0 rfl (lv_at hl 0 rfl) ?_
  refine va_get (D := g.1) (ci := 8) (v := .ref aT) (C := RX8) (T := TX8) (N := 13) hx hb hg inG8 hown hK hP 0 rfl rfl 2 (by decide) (hg _ mm_362) (fun _ h9 => h9) rfl dX8_feed_1 ?_
  refine va_get (D := g.1) (ci := 7) (v := .int 0) (C := RX7) (T := TX7) (N := 2) hx hb hg inG7 hown hK hP 1 rfl rfl 0 (by decide) (hg _ mm_137) (fun _ h9 => h9) rfl dX8_feed_4 ?_
  refine lv_bipush (v := 20) hx hb dX8_feed_7 (by decide) ?_
  refine lv_iadd hx hb dX8_feed_9 ?_
  refine lv_topi (fun x1 ex1 => ?_)
  obtain rfl : x1 = 20 := ex1.trans (by decide)
  refine lv_sipush (v := 200) hx hb dX8_feed_10 (by decide) ?_
  refine lv_icmp_le (tgt := 18) hx hb dX8_feed_13 (by decide) (fun c2 => ?_) (fun c2 => ?_)
  · skip
    refine lv_aload_n hx hb dX8_feed_18 rfl (lv_at hl 0 rfl) ?_
    refine va_get (D := g.1) (ci := 8) (v := .ref aT) (C := RX8) (T := TX8) (N := 13) hx hb hg inG8 hown hK hP 0 rfl rfl 2 (by decide) (hg _ mm_362) (fun _ h9 => h9) rfl dX8_feed_19 ?_
    refine lv_iload_n hx hb dX8_feed_22 rfl (lv_at hl 1 rfl) ?_
    have hPc := hP.sub (ws' := [(aT, .inr (7, [.int 0, .ref aTb])), (aTb, .inl (g.2 0, 200, .inl ft))]) [1, 2] rfl
    have hDc := hD.sub (ws' := [(aT, .inr (7, [.int 0, .ref aTb])), (aTb, .inl (g.2 0, 200, .inl ft))]) [1, 2] (by decide) rfl
    have hFc := va_free (wc := [(aT, .inr (7, [.int 0, .ref aTb])), (aTb, .inl (g.2 0, 200, .inl ft))]) hD hS hA [1, 2] rfl
    refine va_callv (va_runV (As := [.int a]) (rest := []) ⟨hx, hb, hml, hown, hg⟩ (c_X7_append l g _ aT aTb 0 ft a (by first | omega | assumption | decide)) (cwV 1 hg (z_gV mm_521 mm_522 mm_523 mm_109 mm_524) rfl rfl rfl (by decide +kernel) ⟨Nat.le_of_ble_eq_true rfl, Nat.le_of_ble_eq_true rfl⟩) ⟨(zA.pre [.ref aT, .int a] hPc hK hDc hN).1, va_recv hK hPc (ci := 7) (q0 := 0) rfl rfl, (zA.pre [.ref aT, .int a] hPc hK hDc hN).2⟩ rfl rfl hl.1 rfl (lv_room (Nat.le_of_ble_eq_true rfl)) dX8_feed_23 ⟨Nat.le_of_ble_eq_true rfl, Nat.le_of_ble_eq_true rfl⟩) hS (fun q _ h => hFc q h) hFc (fun _ t H1 locs ht hvm hr3 hB hz1 hk1 hS => ?_)
    obtain ⟨z4, hP1, hD1⟩ := hB
    rw [ht] at hP1
    obtain ⟨hP, hD⟩ := va_join (wr := [(h0, .inr (8, [aC, aW, .ref aT, aB, aL, aG, aM, aA, aU, aE, aD, .int 0, .int 0]))]) (w1 := [(aT, .inr (7, [.int (nI (0 + 4)), .ref aTb])), (aTb, .inl (g.2 0, 200, .inl z4))]) hP hD [1, 2] [0] rfl rfl (by decide) (by decide) hk1 hFc hP1 hD1
    generalize H1 = H at hP hS ⊢
    refine W.widen (k := 0) (n := 0) (Nat.le_of_ble_eq_true rfl) (Nat.le_of_ble_eq_true rfl) ?_
    have hP : zP g [(h0, .inr (8, [aC, aW, .ref aT, aB, aL, aG, aM, aA, aU, aE, aD, .int 0, .int 0])), (aT, .inr (7, [.int (nI (0 + 4)), .ref aTb])), (aTb, .inl (g.2 0, 200, .inl z4))] H := hP
    have hD : va_D A [(h0, .inr (8, [aC, aW, .ref aT, aB, aL, aG, aM, aA, aU, aE, aD, .int 0, .int 0])), (aT, .inr (7, [.int (nI (0 + 4)), .ref aTb])), (aTb, .inl (g.2 0, 200, .inl z4))] := hD
    refine lv_aload_n hx hb dX8_feed_26 rfl (lv_at hl 0 rfl) ?_
    refine va_get (D := g.1) (ci := 8) (v := .ref aT) (C := RX8) (T := TX8) (N := 13) hx hb hg inG8 hown hK hP 0 rfl rfl 2 (by decide) (hg _ mm_362) (fun _ h9 => h9) rfl dX8_feed_27 ?_
    refine lv_iload_n hx hb dX8_feed_30 rfl (lv_at hl 2 rfl) ?_
    have hPc := hP.sub (ws' := [(aT, .inr (7, [.int (nI (0 + 4)), .ref aTb])), (aTb, .inl (g.2 0, 200, .inl z4))]) [1, 2] rfl
    have hDc := hD.sub (ws' := [(aT, .inr (7, [.int (nI (0 + 4)), .ref aTb])), (aTb, .inl (g.2 0, 200, .inl z4))]) [1, 2] (by decide) rfl
    have hFc := va_free (wc := [(aT, .inr (7, [.int (nI (0 + 4)), .ref aTb])), (aTb, .inl (g.2 0, 200, .inl z4))]) hD hS hA [1, 2] rfl
    refine va_callv (va_runV (As := [.int b]) (rest := []) ⟨hx, hb, hml, hown, hg⟩ (c_X7_append l g _ aT aTb (0 + 4) z4 b (by first | omega | assumption | decide)) (cwV 1 hg (z_gV mm_521 mm_522 mm_523 mm_109 mm_524) rfl rfl rfl (by decide +kernel) ⟨Nat.le_of_ble_eq_true rfl, Nat.le_of_ble_eq_true rfl⟩) ⟨(zA.pre [.ref aT, .int b] hPc hK hDc hN).1, va_recv hK hPc (ci := 7) (q0 := 0) rfl rfl, (zA.pre [.ref aT, .int b] hPc hK hDc hN).2⟩ rfl rfl hl.1 rfl (lv_room (Nat.le_of_ble_eq_true rfl)) dX8_feed_31 ⟨Nat.le_of_ble_eq_true rfl, Nat.le_of_ble_eq_true rfl⟩) hS (fun q _ h => hFc q h) hFc (fun _ t H1 locs ht hvm hr5 hB hz1 hk1 hS => ?_)
    obtain ⟨z6, hP1, hD1⟩ := hB
    rw [ht] at hP1
    obtain ⟨hP, hD⟩ := va_join (wr := [(h0, .inr (8, [aC, aW, .ref aT, aB, aL, aG, aM, aA, aU, aE, aD, .int 0, .int 0]))]) (w1 := [(aT, .inr (7, [.int (nI ((0 + 4) + 4)), .ref aTb])), (aTb, .inl (g.2 0, 200, .inl z6))]) hP hD [1, 2] [0] rfl rfl (by decide) (by decide) hk1 hFc hP1 hD1
    generalize H1 = H at hP hS ⊢
    refine W.widen (k := 0) (n := 0) (Nat.le_of_ble_eq_true rfl) (Nat.le_of_ble_eq_true rfl) ?_
    have hP : zP g [(h0, .inr (8, [aC, aW, .ref aT, aB, aL, aG, aM, aA, aU, aE, aD, .int 0, .int 0])), (aT, .inr (7, [.int (nI ((0 + 4) + 4)), .ref aTb])), (aTb, .inl (g.2 0, 200, .inl z6))] H := hP
    have hD : va_D A [(h0, .inr (8, [aC, aW, .ref aT, aB, aL, aG, aM, aA, aU, aE, aD, .int 0, .int 0])), (aT, .inr (7, [.int (nI ((0 + 4) + 4)), .ref aTb])), (aTb, .inl (g.2 0, 200, .inl z6))] := hD
    refine lv_aload_n hx hb dX8_feed_34 rfl (lv_at hl 0 rfl) ?_
    refine va_get (D := g.1) (ci := 8) (v := .ref aT) (C := RX8) (T := TX8) (N := 13) hx hb hg inG8 hown hK hP 0 rfl rfl 2 (by decide) (hg _ mm_362) (fun _ h9 => h9) rfl dX8_feed_35 ?_
    refine lv_iload_n hx hb dX8_feed_38 rfl (lv_at hl 3 rfl) ?_
    have hPc := hP.sub (ws' := [(aT, .inr (7, [.int (nI ((0 + 4) + 4)), .ref aTb])), (aTb, .inl (g.2 0, 200, .inl z6))]) [1, 2] rfl
    have hDc := hD.sub (ws' := [(aT, .inr (7, [.int (nI ((0 + 4) + 4)), .ref aTb])), (aTb, .inl (g.2 0, 200, .inl z6))]) [1, 2] (by decide) rfl
    have hFc := va_free (wc := [(aT, .inr (7, [.int (nI ((0 + 4) + 4)), .ref aTb])), (aTb, .inl (g.2 0, 200, .inl z6))]) hD hS hA [1, 2] rfl
    refine va_callv (va_runV (As := [.int c0]) (rest := []) ⟨hx, hb, hml, hown, hg⟩ (c_X7_append l g _ aT aTb ((0 + 4) + 4) z6 c0 (by first | omega | assumption | decide)) (cwV 1 hg (z_gV mm_521 mm_522 mm_523 mm_109 mm_524) rfl rfl rfl (by decide +kernel) ⟨Nat.le_of_ble_eq_true rfl, Nat.le_of_ble_eq_true rfl⟩) ⟨(zA.pre [.ref aT, .int c0] hPc hK hDc hN).1, va_recv hK hPc (ci := 7) (q0 := 0) rfl rfl, (zA.pre [.ref aT, .int c0] hPc hK hDc hN).2⟩ rfl rfl hl.1 rfl (lv_room (Nat.le_of_ble_eq_true rfl)) dX8_feed_39 ⟨Nat.le_of_ble_eq_true rfl, Nat.le_of_ble_eq_true rfl⟩) hS (fun q _ h => hFc q h) hFc (fun _ t H1 locs ht hvm hr7 hB hz1 hk1 hS => ?_)
    obtain ⟨z8, hP1, hD1⟩ := hB
    rw [ht] at hP1
    obtain ⟨hP, hD⟩ := va_join (wr := [(h0, .inr (8, [aC, aW, .ref aT, aB, aL, aG, aM, aA, aU, aE, aD, .int 0, .int 0]))]) (w1 := [(aT, .inr (7, [.int (nI (((0 + 4) + 4) + 4)), .ref aTb])), (aTb, .inl (g.2 0, 200, .inl z8))]) hP hD [1, 2] [0] rfl rfl (by decide) (by decide) hk1 hFc hP1 hD1
    generalize H1 = H at hP hS ⊢
    refine W.widen (k := 0) (n := 0) (Nat.le_of_ble_eq_true rfl) (Nat.le_of_ble_eq_true rfl) ?_
    have hP : zP g [(h0, .inr (8, [aC, aW, .ref aT, aB, aL, aG, aM, aA, aU, aE, aD, .int 0, .int 0])), (aT, .inr (7, [.int (nI (((0 + 4) + 4) + 4)), .ref aTb])), (aTb, .inl (g.2 0, 200, .inl z8))] H := hP
    have hD : va_D A [(h0, .inr (8, [aC, aW, .ref aT, aB, aL, aG, aM, aA, aU, aE, aD, .int 0, .int 0])), (aT, .inr (7, [.int (nI (((0 + 4) + 4) + 4)), .ref aTb])), (aTb, .inl (g.2 0, 200, .inl z8))] := hD
    refine lv_aload_n hx hb dX8_feed_42 rfl (lv_at hl 0 rfl) ?_
    refine va_get (D := g.1) (ci := 8) (v := .ref aT) (C := RX8) (T := TX8) (N := 13) hx hb hg inG8 hown hK hP 0 rfl rfl 2 (by decide) (hg _ mm_362) (fun _ h9 => h9) rfl dX8_feed_43 ?_
    refine lv_iload hx hb dX8_feed_46 (lv_at hl 4 rfl) ?_
    have hPc := hP.sub (ws' := [(aT, .inr (7, [.int (nI (((0 + 4) + 4) + 4)), .ref aTb])), (aTb, .inl (g.2 0, 200, .inl z8))]) [1, 2] rfl
    have hDc := hD.sub (ws' := [(aT, .inr (7, [.int (nI (((0 + 4) + 4) + 4)), .ref aTb])), (aTb, .inl (g.2 0, 200, .inl z8))]) [1, 2] (by decide) rfl
    have hFc := va_free (wc := [(aT, .inr (7, [.int (nI (((0 + 4) + 4) + 4)), .ref aTb])), (aTb, .inl (g.2 0, 200, .inl z8))]) hD hS hA [1, 2] rfl
    refine va_callv (va_runV (As := [.int d0]) (rest := []) ⟨hx, hb, hml, hown, hg⟩ (c_X7_append l g _ aT aTb (((0 + 4) + 4) + 4) z8 d0 (by first | omega | assumption | decide)) (cwV 1 hg (z_gV mm_521 mm_522 mm_523 mm_109 mm_524) rfl rfl rfl (by decide +kernel) ⟨Nat.le_of_ble_eq_true rfl, Nat.le_of_ble_eq_true rfl⟩) ⟨(zA.pre [.ref aT, .int d0] hPc hK hDc hN).1, va_recv hK hPc (ci := 7) (q0 := 0) rfl rfl, (zA.pre [.ref aT, .int d0] hPc hK hDc hN).2⟩ rfl rfl hl.1 rfl (lv_room (Nat.le_of_ble_eq_true rfl)) dX8_feed_48 ⟨Nat.le_of_ble_eq_true rfl, Nat.le_of_ble_eq_true rfl⟩) hS (fun q _ h => hFc q h) hFc (fun _ t H1 locs ht hvm hr9 hB hz1 hk1 hS => ?_)
    obtain ⟨z10, hP1, hD1⟩ := hB
    rw [ht] at hP1
    obtain ⟨hP, hD⟩ := va_join (wr := [(h0, .inr (8, [aC, aW, .ref aT, aB, aL, aG, aM, aA, aU, aE, aD, .int 0, .int 0]))]) (w1 := [(aT, .inr (7, [.int (nI ((((0 + 4) + 4) + 4) + 4)), .ref aTb])), (aTb, .inl (g.2 0, 200, .inl z10))]) hP hD [1, 2] [0] rfl rfl (by decide) (by decide) hk1 hFc hP1 hD1
    generalize H1 = H at hP hS ⊢
    refine W.widen (k := 0) (n := 0) (Nat.le_of_ble_eq_true rfl) (Nat.le_of_ble_eq_true rfl) ?_
    have hP : zP g [(h0, .inr (8, [aC, aW, .ref aT, aB, aL, aG, aM, aA, aU, aE, aD, .int 0, .int 0])), (aT, .inr (7, [.int (nI ((((0 + 4) + 4) + 4) + 4)), .ref aTb])), (aTb, .inl (g.2 0, 200, .inl z10))] H := hP
    have hD : va_D A [(h0, .inr (8, [aC, aW, .ref aT, aB, aL, aG, aM, aA, aU, aE, aD, .int 0, .int 0])), (aT, .inr (7, [.int (nI ((((0 + 4) + 4) + 4) + 4)), .ref aTb])), (aTb, .inl (g.2 0, 200, .inl z10))] := hD
    refine lv_aload_n hx hb dX8_feed_51 rfl (lv_at hl 0 rfl) ?_
    refine va_get (D := g.1) (ci := 8) (v := .ref aT) (C := RX8) (T := TX8) (N := 13) hx hb hg inG8 hown hK hP 0 rfl rfl 2 (by decide) (hg _ mm_362) (fun _ h9 => h9) rfl dX8_feed_52 ?_
    refine lv_iload hx hb dX8_feed_55 (lv_at hl 5 rfl) ?_
    have hPc := hP.sub (ws' := [(aT, .inr (7, [.int (nI ((((0 + 4) + 4) + 4) + 4)), .ref aTb])), (aTb, .inl (g.2 0, 200, .inl z10))]) [1, 2] rfl
    have hDc := hD.sub (ws' := [(aT, .inr (7, [.int (nI ((((0 + 4) + 4) + 4) + 4)), .ref aTb])), (aTb, .inl (g.2 0, 200, .inl z10))]) [1, 2] (by decide) rfl
    have hFc := va_free (wc := [(aT, .inr (7, [.int (nI ((((0 + 4) + 4) + 4) + 4)), .ref aTb])), (aTb, .inl (g.2 0, 200, .inl z10))]) hD hS hA [1, 2] rfl
    refine va_callv (va_runV (As := [.int e0]) (rest := []) ⟨hx, hb, hml, hown, hg⟩ (c_X7_append l g _ aT aTb ((((0 + 4) + 4) + 4) + 4) z10 e0 (by first | omega | assumption | decide)) (cwV 1 hg (z_gV mm_521 mm_522 mm_523 mm_109 mm_524) rfl rfl rfl (by decide +kernel) ⟨Nat.le_of_ble_eq_true rfl, Nat.le_of_ble_eq_true rfl⟩) ⟨(zA.pre [.ref aT, .int e0] hPc hK hDc hN).1, va_recv hK hPc (ci := 7) (q0 := 0) rfl rfl, (zA.pre [.ref aT, .int e0] hPc hK hDc hN).2⟩ rfl rfl hl.1 rfl (lv_room (Nat.le_of_ble_eq_true rfl)) dX8_feed_57 ⟨Nat.le_of_ble_eq_true rfl, Nat.le_of_ble_eq_true rfl⟩) hS (fun q _ h => hFc q h) hFc (fun _ t H1 locs ht hvm hr11 hB hz1 hk1 hS => ?_)
    obtain ⟨z12, hP1, hD1⟩ := hB
    rw [ht] at hP1
    obtain ⟨hP, hD⟩ := va_join (wr := [(h0, .inr (8, [aC, aW, .ref aT, aB, aL, aG, aM, aA, aU, aE, aD, .int 0, .int 0]))]) (w1 := [(aT, .inr (7, [.int (nI (((((0 + 4) + 4) + 4) + 4) + 4)), .ref aTb])), (aTb, .inl (g.2 0, 200, .inl z12))]) hP hD [1, 2] [0] rfl rfl (by decide) (by decide) hk1 hFc hP1 hD1
    generalize H1 = H at hP hS ⊢
    refine W.widen (k := 0) (n := 0) (Nat.le_of_ble_eq_true rfl) (Nat.le_of_ble_eq_true rfl) ?_
    have hP : zP g [(h0, .inr (8, [aC, aW, .ref aT, aB, aL, aG, aM, aA, aU, aE, aD, .int 0, .int 0])), (aT, .inr (7, [.int (nI (((((0 + 4) + 4) + 4) + 4) + 4)), .ref aTb])), (aTb, .inl (g.2 0, 200, .inl z12))] H := hP
    have hD : va_D A [(h0, .inr (8, [aC, aW, .ref aT, aB, aL, aG, aM, aA, aU, aE, aD, .int 0, .int 0])), (aT, .inr (7, [.int (nI (((((0 + 4) + 4) + 4) + 4) + 4)), .ref aTb])), (aTb, .inl (g.2 0, 200, .inl z12))] := hD
    refine lv_aload_n hx hb dX8_feed_60 rfl (lv_at hl 0 rfl) ?_
    refine va_get (D := g.1) (ci := 8) (v := .ref aT) (C := RX8) (T := TX8) (N := 13) hx hb hg inG8 hown hK hP 0 rfl rfl 2 (by decide) (hg _ mm_362) (fun _ h9 => h9) rfl dX8_feed_61 ?_
    refine va_get (D := g.1) (ci := 7) (v := .int (nI (((((0 + 4) + 4) + 4) + 4) + 4))) (C := RX7) (T := TX7) (N := 2) hx hb hg inG7 hown hK hP 1 rfl rfl 0 (by decide) (hg _ mm_137) (fun _ h9 => h9) rfl dX8_feed_64 ?_
    have hP9 := hP.sub (ws' := []) [] rfl
    have hD9 := hD.sub (ws' := []) [] (by decide) rfl
    refine W.widen (k := 0) (n := 0) (Nat.le_of_ble_eq_true rfl) (Nat.le_of_ble_eq_true rfl) ?_
    exact W.iret (v := (nI (((((0 + 4) + 4) + 4) + 4) + 4))) hx hb hr (fun t ht hW => ⟨⟨(nI (((((0 + 4) + 4) + 4) + 4) + 4)), (), rfl, by decide, ⟨by rw [ht]; exact hP9, hD9⟩⟩, hS.F ht⟩) hS.2.2 dX8_feed_67
  · skip
    exact absurd c2 (by decide)

set_option maxHeartbeats 4000000 in
set_option maxRecDepth 100000 in
theorem c_X8_isPersonG (l : Launch) (g : zG) (h0 : Nat) (w0 : Value) (w1 : Value) (w2 : Value) (w3 : Value) (w4 : Value) (w5 : Value) (w6 : Value) (w7 : Value) (w8 : Value) (w9 : Value) (w10 : Value) (pe : Int32) (p0 : Int32) (bk : Value) : Met l yX8_isPerson (zW yX8_isPerson cX8_isPerson 2 (some .boolean)) ({ frames := 0, cells := 0, slots := 0, locals := 0 }) (va_Pc [.ref h0, .int p0] (zR g [(h0, .inr (8, [w0, w1, w2, w3, w4, w5, w6, w7, w8, w9, w10, .int pe, bk]))])) (vp_Si (fun r : Int32 => (r = 1 ∧ (0 ≤ p0.toInt) ∧ (p0.toInt < pe.toInt)) ∨ (r = 0 ∧ (¬ (0 ≤ p0.toInt ∧ p0.toInt < pe.toInt))))) 0 0 (fun _ => False) := by
  refine Met.ofW (cc := cX8_isPerson) (maxL := 2) (ret := (some .boolean)) (by decide) rfl ?_
  intro p e s m args below meth c s₁ B hml hv
  obtain ⟨rfl, hP, hK, hN⟩ := hv
  have hx := B.exec
  have hb := B.bytes
  have hr := B.returns
  have hg := zW.law (atoms_spec (ws := (zW yX8_isPerson cX8_isPerson 2 (some .boolean))) B.pre)
  have hown : s.vm.findClass RX8 = some m.cls := findClass_of_methodNamed B.named
  have hlocks := B.notSynchronized
  have hl := lv_entry ([.ref h0, .int p0]) (n := 2) (Nat.le_of_ble_eq_true rfl)
  rw [lg_entry_eq]
  generalize (lg_sl ([.ref h0, .int p0]) ++ List.replicate (2 - (lg_sl ([.ref h0, .int p0])).length) Slot.unset).toArray = ls at hl ⊢
  have hl : lv_has ls 2 [(0, .ref h0), (1, .int p0)] := hl
  refine lv_iload_n hx hb dX8_isPerson_0 rfl (lv_at hl 1 rfl) ?_
  refine lv_if_lt (tgt := 16) hx hb dX8_isPerson_1 (by decide) (fun c1 => ?_) (fun c1 => ?_)
  · skip
    have c1 : p0.toInt < 0 := (z_lt rfl (by decide : (0 : Int32).toInt = 0)).mp c1
    refine lv_iconst (v := 0) hx hb dX8_isPerson_16 (by decide) ?_
    exact W.zret (v := 0) hx hb hr rfl (fun t ht hW => ⟨0, rfl, by first | exact Or.inl ⟨rfl, by omega⟩ | exact Or.inr ⟨rfl, by omega⟩, ht⟩) (fun q hq => by cases hq) dX8_isPerson_17
  · skip
    have c1 : ¬ (p0.toInt < 0) := fun q => c1 ((z_lt rfl (by decide : (0 : Int32).toInt = 0)).mpr q)
    refine lv_iload_n hx hb dX8_isPerson_4 rfl (lv_at hl 1 rfl) ?_
    refine lv_aload_n hx hb dX8_isPerson_5 rfl (lv_at hl 0 rfl) ?_
    refine va_get (D := g.1) (ci := 8) (v := .int pe) (C := RX8) (T := TX8) (N := 13) hx hb hg inG8 hown hK hP 0 rfl rfl 11 (by decide) (hg _ mm_371) (fun _ h9 => h9) rfl dX8_isPerson_6 ?_
    refine lv_icmp_ge (tgt := 16) hx hb dX8_isPerson_9 (by decide) (fun c2 => ?_) (fun c2 => ?_)
    · skip
      have c2 : pe.toInt ≤ p0.toInt := (z_le rfl rfl).mp c2
      refine lv_iconst (v := 0) hx hb dX8_isPerson_16 (by decide) ?_
      exact W.zret (v := 0) hx hb hr rfl (fun t ht hW => ⟨0, rfl, by first | exact Or.inl ⟨rfl, by omega⟩ | exact Or.inr ⟨rfl, by omega⟩, ht⟩) (fun q hq => by cases hq) dX8_isPerson_17
    · skip
      have c2 : ¬ (pe.toInt ≤ p0.toInt) := fun q => c2 ((z_le rfl rfl).mpr q)
      refine lv_iconst (v := 1) hx hb dX8_isPerson_12 (by decide) ?_
      refine lv_goto (tgt := 17) hx hb dX8_isPerson_13 (by decide) ?_
      exact W.zret (v := 1) hx hb hr rfl (fun t ht hW => ⟨1, rfl, by first | exact Or.inl ⟨rfl, by omega⟩ | exact Or.inr ⟨rfl, by omega⟩, ht⟩) (fun q hq => by cases hq) dX8_isPerson_17
