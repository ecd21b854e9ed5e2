set_option maxHeartbeats 4000000 in
set_option maxRecDepth 100000 in
theorem c_X9_upper (l : Launch) (g : zG) (sz : Nat) (h0 : Nat) (bmu : Nat) (mu : Nat → Int32) (u2 : Value) (u3 : Value) (u4 : Value) (u9 : Value) (u10 : Value) (u11 : Value) (u12 : Value) (u13 : Value) (u14 : Value) (u15 : Value) (u17 : Value) (u18 : Value) (u19 : Value) (u20 : Value) (u21 : Value) (u22 : Value) (u23 : Value) (u24 : Value) (u25 : Value) (u26 : Value) (u27 : Value) (u28 : Value) (u29 : Value) (u30 : Value) (u31 : Value) (u32 : Value) (u33 : Value) (u34 : Value) (u35 : Value) (u36 : Value) (u37 : Value) (u38 : Value) (u39 : Value) (u40 : Value) (u41 : Value) (u42 : Value) (u43 : Value) (u44 : Value) (u45 : Value) (u46 : Value) (c0 : Int32) (nd : Int32) (up : Int32) : Met l yX9_upper (zW yX9_upper cX9_upper 4 (some .boolean)) ({ frames := 1, cells := 0, slots := 0, locals := 22 }) (va_Pc [.ref h0, .int c0, .int nd, .int up] (zA g [(h0, .inr (9, [.int 0, .ref bmu, u2, u3, u4, .int 0, .int 0, .int 0, .int 0, u9, u10, u11, u12, u13, u14, u15, .int 0, u17, u18, u19, u20, u21, u22, u23, u24, u25, u26, u27, u28, u29, u30, u31, u32, u33, u34, u35, u36, u37, u38, u39, u40, u41, u42, u43, u44, u45, u46])), (bmu, .inl (g.2 0, 128, .inl mu))] sz)) (va_Qi (fun (r : Int32) (_ : Unit) => (r = 1 ∧ (0 ≤ c0.toInt ∧ c0.toInt ≤ 3 ∧ (0 ≤ nd.toInt ∧ nd.toInt ≤ 31) ∧ (up.toInt = -1 ∨ (16 ≤ up.toInt ∧ up.toInt ≤ 31) ∧ nd.toInt < up.toInt))) ∨ (r = 0 ∧ (¬ (0 ≤ c0.toInt ∧ c0.toInt ≤ 3 ∧ (0 ≤ nd.toInt ∧ nd.toInt ≤ 31) ∧ (up.toInt = -1 ∨ (16 ≤ up.toInt ∧ up.toInt ≤ 31) ∧ nd.toInt < up.toInt))))) (fun _ t => zP g [] t.heap ∧ va_D (va_A [(h0, .inr (9, [.int 0, .ref bmu, u2, u3, u4, .int 0, .int 0, .int 0, .int 0, u9, u10, u11, u12, u13, u14, u15, .int 0, u17, u18, u19, u20, u21, u22, u23, u24, u25, u26, u27, u28, u29, u30, u31, u32, u33, u34, u35, u36, u37, u38, u39, u40, u41, u42, u43, u44, u45, u46])), (bmu, .inl (g.2 0, 128, .inl mu))] sz) []) (va_A [(h0, .inr (9, [.int 0, .ref bmu, u2, u3, u4, .int 0, .int 0, .int 0, .int 0, u9, u10, u11, u12, u13, u14, u15, .int 0, u17, u18, u19, u20, u21, u22, u23, u24, u25, u26, u27, u28, u29, u30, u31, u32, u33, u34, u35, u36, u37, u38, u39, u40, u41, u42, u43, u44, u45, u46])), (bmu, .inl (g.2 0, 128, .inl mu))] sz)) 0 0 (va_A [(h0, .inr (9, [.int 0, .ref bmu, u2, u3, u4, .int 0, .int 0, .int 0, .int 0, u9, u10, u11, u12, u13, u14, u15, .int 0, u17, u18, u19, u20, u21, u22, u23, u24, u25, u26, u27, u28, u29, u30, u31, u32, u33, u34, u35, u36, u37, u38, u39, u40, u41, u42, u43, u44, u45, u46])), (bmu, .inl (g.2 0, 128, .inl mu))] sz) := by
  refine Met.ofW (cc := cX9_upper) (maxL := 4) (ret := (some .boolean)) (by decide) rfl ?_
  intro p e s m args below meth c s₁ B hml hv
  obtain ⟨rfl, hsz, hP, hK, hD0, hN⟩ := hv
  have hx := B.exec
  have hb := B.bytes
  have hr := B.returns
  have hg := zW.law (atoms_spec (ws := (zW yX9_upper cX9_upper 4 (some .boolean))) B.pre)
  have hown : s.vm.findClass RX9 = some m.cls := findClass_of_methodNamed B.named
  have hlocks := B.notSynchronized
  subst hsz
  have hD := hD0.self (sz := s.heap.size)
  generalize hAe : va_A [(h0, .inr (9, [.int 0, .ref bmu, u2, u3, u4, .int 0, .int 0, .int 0, .int 0, u9, u10, u11, u12, u13, u14, u15, .int 0, u17, u18, u19, u20, u21, u22, u23, u24, u25, u26, u27, u28, u29, u30, u31, u32, u33, u34, u35, u36, u37, u38, u39, u40, u41, u42, u43, u44, u45, u46])), (bmu, .inl (g.2 0, 128, .inl mu))] s.heap.size = A at hD ⊢
  have hA : ∀ q : Nat, s.heap.size ≤ q → A q := fun q h => by rw [← hAe]; exact Or.inr h
  have hS : va_S A s.heap s.heap [] := va_S.rf
  have hl := lv_entry ([.ref h0, .int c0, .int nd, .int up]) (n := 4) (Nat.le_of_ble_eq_true rfl)
  rw [lg_entry_eq]
  generalize (lg_sl ([.ref h0, .int c0, .int nd, .int up]) ++ List.replicate (4 - (lg_sl ([.ref h0, .int c0, .int nd, .int up])).length) Slot.unset).toArray = ls at hl ⊢
  have hl : lv_has ls 4 [(0, .ref h0), (1, .int c0), (2, .int nd), (3, .int up)] := hl
  refine lv_iload_n hx hb dX9_upper_0 rfl (lv_at hl 1 rfl) ?_
  have hPc := hP.sub (ws' := []) [] rfl
  refine zc_i (va_runS (As := [.int c0]) (rest := []) ⟨hx, hb, hml, hown, hg⟩ (c_X9_isColumn l g c0 ) (va_cwS 1 hg (z_gS mm_1106 mm_1107 mm_117 mm_1108) rfl rfl rfl (by decide +kernel) ⟨Nat.le_of_ble_eq_true rfl, Nat.le_of_ble_eq_true rfl⟩) (zR.pre [.int c0] hPc hK hN) rfl rfl hl.1 rfl (lv_room (Nat.le_of_ble_eq_true rfl)) dX9_upper_1 ⟨Nat.le_of_ble_eq_true rfl, Nat.le_of_ble_eq_true rfl⟩) (fun r1 hr1 => ?_)
  rcases hr1 with hr1 | hr1
  · skip
    obtain ⟨rfl, h2, h3⟩ := hr1
    have h2 : 0 ≤ c0.toInt := h2
    have h3 : c0.toInt ≤ 3 := h3
    refine lv_if_eq (tgt := 38) hx hb dX9_upper_4 (by decide) (fun c4 => ?_) (fun c4 => ?_)
    · skip
      exact absurd c4 (by decide)
    · skip
      refine lv_iload_n hx hb dX9_upper_7 rfl (lv_at hl 2 rfl) ?_
      refine lv_iconst (v := 0) hx hb dX9_upper_8 (by decide) ?_
      refine lv_bipush (v := 31) hx hb dX9_upper_9 (by decide) ?_
      have hPc := hP.sub (ws' := []) [] rfl
      refine zc_i (va_runS (As := [.int nd, .int 0, .int 31]) (rest := []) ⟨hx, hb, hml, hown, hg⟩ (c_X9_in l g nd (0 : Int32) (31 : Int32) ) (va_cwS 3 hg (z_gS mm_1109 mm_1110 mm_117 mm_1111) rfl rfl rfl (by decide +kernel) ⟨Nat.le_of_ble_eq_true rfl, Nat.le_of_ble_eq_true rfl⟩) (zR.pre [.int nd, .int 0, .int 31] hPc hK hN) rfl rfl hl.1 rfl (lv_room (Nat.le_of_ble_eq_true rfl)) dX9_upper_11 ⟨Nat.le_of_ble_eq_true rfl, Nat.le_of_ble_eq_true rfl⟩) (fun r5 hr5 => ?_)
      rcases hr5 with hr5 | hr5
      · skip
        obtain ⟨rfl, h6, h7⟩ := hr5
        have h6 : (0 : Int) ≤ nd.toInt := h6
        have h7 : nd.toInt ≤ (31 : Int) := h7
        refine lv_if_eq (tgt := 38) hx hb dX9_upper_14 (by decide) (fun c8 => ?_) (fun c8 => ?_)
        · skip
          exact absurd c8 (by decide)
        · skip
          refine lv_iload_n hx hb dX9_upper_17 rfl (lv_at hl 3 rfl) ?_
          refine lv_iconst (v := (-1)) hx hb dX9_upper_18 (by decide) ?_
          refine lv_icmp_eq (tgt := 40) hx hb dX9_upper_19 (by decide) (fun c9 => ?_) (fun c9 => ?_)
          · skip
            have c9 : up.toInt = (-1) := (z_eq rfl (by decide : ((-1) : Int32).toInt = (-1))).mp c9
            refine lv_aload_n hx hb dX9_upper_40 rfl (lv_at hl 0 rfl) ?_
            refine va_get (D := g.1) (ci := 9) (v := .ref bmu) (C := RX9) (T := TX9) (N := 47) hx hb hg inG9 hown hK hP 0 rfl rfl 1 (by decide) (hg _ mm_959) (fun _ h9 => h9) rfl dX9_upper_41 ?_
            refine lv_bipush (v := 32) hx hb dX9_upper_44 (by decide) ?_
            refine lv_iload_n hx hb dX9_upper_46 rfl (lv_at hl 1 rfl) ?_
            refine lv_imul hx hb dX9_upper_47 ?_
            refine lv_topi (fun x10 ex10 => ?_)
            have tx10 : x10.toInt = 32 * c0.toInt := by rw [ex10]; exact z_mul (by decide : (32 : Int32).toInt = 32) rfl (by omega) (by omega)
            refine lv_iload_n hx hb dX9_upper_48 rfl (lv_at hl 2 rfl) ?_
            refine lv_iadd hx hb dX9_upper_49 ?_
            refine lv_topi (fun x11 ex11 => ?_)
            have tx11 : x11.toInt = x10.toInt + nd.toInt := by rw [ex11]; exact z_add rfl rfl (by omega) (by omega)
            refine lv_iload_n hx hb dX9_upper_50 rfl (lv_at hl 3 rfl) ?_
            refine va_iast hx hb hK hP hD hS 1 0 rfl rfl (z_in rfl (by omega) (by omega)) dX9_upper_51 (fun H locs hP hD hS => ?_)
            have hP : zP g [(h0, .inr (9, [.int 0, .ref bmu, u2, u3, u4, .int 0, .int 0, .int 0, .int 0, u9, u10, u11, u12, u13, u14, u15, .int 0, u17, u18, u19, u20, u21, u22, u23, u24, u25, u26, u27, u28, u29, u30, u31, u32, u33, u34, u35, u36, u37, u38, u39, u40, u41, u42, u43, u44, u45, u46])), (bmu, .inl (g.2 0, 128, .inl (upd mu (Int32.toNatClampNeg x11) up)))] H := hP
            have hD : va_D A [(h0, .inr (9, [.int 0, .ref bmu, u2, u3, u4, .int 0, .int 0, .int 0, .int 0, u9, u10, u11, u12, u13, u14, u15, .int 0, u17, u18, u19, u20, u21, u22, u23, u24, u25, u26, u27, u28, u29, u30, u31, u32, u33, u34, u35, u36, u37, u38, u39, u40, u41, u42, u43, u44, u45, u46])), (bmu, .inl (g.2 0, 128, .inl (upd mu (Int32.toNatClampNeg x11) up)))] := hD
            refine lv_iconst (v := 1) hx hb dX9_upper_52 (by decide) ?_
            have hP9 := hP.sub (ws' := []) [] rfl
            have hD9 := hD.sub (ws' := []) [] (by decide) rfl
            refine W.widen (k := 0) (n := 0) (Nat.le_of_ble_eq_true rfl) (Nat.le_of_ble_eq_true rfl) ?_
            exact W.zret (v := 1) hx hb hr rfl (fun t ht hW => ⟨⟨1, (), rfl, by first | exact Or.inl ⟨rfl, by omega⟩ | exact Or.inr ⟨rfl, by omega⟩, ⟨by rw [ht]; exact hP9, hD9⟩⟩, hS.F ht⟩) hS.2.2 dX9_upper_53
          · skip
            have c9 : ¬ (up.toInt = (-1)) := fun q => c9 ((z_eq rfl (by decide : ((-1) : Int32).toInt = (-1))).mpr q)
            refine lv_iload_n hx hb dX9_upper_22 rfl (lv_at hl 3 rfl) ?_
            refine lv_bipush (v := 16) hx hb dX9_upper_23 (by decide) ?_
            refine lv_bipush (v := 31) hx hb dX9_upper_25 (by decide) ?_
            have hPc := hP.sub (ws' := []) [] rfl
            refine zc_i (va_runS (As := [.int up, .int 16, .int 31]) (rest := []) ⟨hx, hb, hml, hown, hg⟩ (c_X9_in l g up (16 : Int32) (31 : Int32) ) (va_cwS 3 hg (z_gS mm_1109 mm_1110 mm_117 mm_1111) rfl rfl rfl (by decide +kernel) ⟨Nat.le_of_ble_eq_true rfl, Nat.le_of_ble_eq_true rfl⟩) (zR.pre [.int up, .int 16, .int 31] hPc hK hN) rfl rfl hl.1 rfl (lv_room (Nat.le_of_ble_eq_true rfl)) dX9_upper_27 ⟨Nat.le_of_ble_eq_true rfl, Nat.le_of_ble_eq_true rfl⟩) (fun r12 hr12 => ?_)
            rcases hr12 with hr12 | hr12
            · skip
              obtain ⟨rfl, h13, h14⟩ := hr12
              have h13 : (16 : Int) ≤ up.toInt := h13
              have h14 : up.toInt ≤ (31 : Int) := h14
              refine lv_if_eq (tgt := 38) hx hb dX9_upper_30 (by decide) (fun c15 => ?_) (fun c15 => ?_)
              · skip
                exact absurd c15 (by decide)
              · skip
                refine lv_iload_n hx hb dX9_upper_33 rfl (lv_at hl 3 rfl) ?_
                refine lv_iload_n hx hb dX9_upper_34 rfl (lv_at hl 2 rfl) ?_
                refine lv_icmp_gt (tgt := 40) hx hb dX9_upper_35 (by decide) (fun c16 => ?_) (fun c16 => ?_)
                · skip
                  have c16 : nd.toInt < up.toInt := (z_lt rfl rfl).mp c16
                  refine lv_aload_n hx hb dX9_upper_40 rfl (lv_at hl 0 rfl) ?_
                  refine va_get (D := g.1) (ci := 9) (v := .ref bmu) (C := RX9) (T := TX9) (N := 47) hx hb hg inG9 hown hK hP 0 rfl rfl 1 (by decide) (hg _ mm_959) (fun _ h9 => h9) rfl dX9_upper_41 ?_
                  refine lv_bipush (v := 32) hx hb dX9_upper_44 (by decide) ?_
                  refine lv_iload_n hx hb dX9_upper_46 rfl (lv_at hl 1 rfl) ?_
                  refine lv_imul hx hb dX9_upper_47 ?_
                  refine lv_topi (fun x17 ex17 => ?_)
                  have tx17 : x17.toInt = 32 * c0.toInt := by rw [ex17]; exact z_mul (by decide : (32 : Int32).toInt = 32) rfl (by omega) (by omega)
                  refine lv_iload_n hx hb dX9_upper_48 rfl (lv_at hl 2 rfl) ?_
                  refine lv_iadd hx hb dX9_upper_49 ?_
                  refine lv_topi (fun x18 ex18 => ?_)
                  have tx18 : x18.toInt = x17.toInt + nd.toInt := by rw [ex18]; exact z_add rfl rfl (by omega) (by omega)
                  refine lv_iload_n hx hb dX9_upper_50 rfl (lv_at hl 3 rfl) ?_
                  refine va_iast hx hb hK hP hD hS 1 0 rfl rfl (z_in rfl (by omega) (by omega)) dX9_upper_51 (fun H locs hP hD hS => ?_)
                  have hP : zP g [(h0, .inr (9, [.int 0, .ref bmu, u2, u3, u4, .int 0, .int 0, .int 0, .int 0, u9, u10, u11, u12, u13, u14, u15, .int 0, u17, u18, u19, u20, u21, u22, u23, u24, u25, u26, u27, u28, u29, u30, u31, u32, u33, u34, u35, u36, u37, u38, u39, u40, u41, u42, u43, u44, u45, u46])), (bmu, .inl (g.2 0, 128, .inl (upd mu (Int32.toNatClampNeg x18) up)))] H := hP
                  have hD : va_D A [(h0, .inr (9, [.int 0, .ref bmu, u2, u3, u4, .int 0, .int 0, .int 0, .int 0, u9, u10, u11, u12, u13, u14, u15, .int 0, u17, u18, u19, u20, u21, u22, u23, u24, u25, u26, u27, u28, u29, u30, u31, u32, u33, u34, u35, u36, u37, u38, u39, u40, u41, u42, u43, u44, u45, u46])), (bmu, .inl (g.2 0, 128, .inl (upd mu (Int32.toNatClampNeg x18) up)))] := hD
                  refine lv_iconst (v := 1) hx hb dX9_upper_52 (by decide) ?_
                  have hP9 := hP.sub (ws' := []) [] rfl
                  have hD9 := hD.sub (ws' := []) [] (by decide) rfl
                  refine W.widen (k := 0) (n := 0) (Nat.le_of_ble_eq_true rfl) (Nat.le_of_ble_eq_true rfl) ?_
                  exact W.zret (v := 1) hx hb hr rfl (fun t ht hW => ⟨⟨1, (), rfl, by first | exact Or.inl ⟨rfl, by omega⟩ | exact Or.inr ⟨rfl, by omega⟩, ⟨by rw [ht]; exact hP9, hD9⟩⟩, hS.F ht⟩) hS.2.2 dX9_upper_53
                · skip
                  have c16 : ¬ (nd.toInt < up.toInt) := fun q => c16 ((z_lt rfl rfl).mpr q)
                  refine lv_iconst (v := 0) hx hb dX9_upper_38 (by decide) ?_
                  have hP9 := hP.sub (ws' := []) [] rfl
                  have hD9 := hD.sub (ws' := []) [] (by decide) rfl
                  refine W.widen (k := 0) (n := 0) (Nat.le_of_ble_eq_true rfl) (Nat.le_of_ble_eq_true rfl) ?_
                  exact W.zret (v := 0) hx hb hr rfl (fun t ht hW => ⟨⟨0, (), rfl, by first | exact Or.inl ⟨rfl, by omega⟩ | exact Or.inr ⟨rfl, by omega⟩, ⟨by rw [ht]; exact hP9, hD9⟩⟩, hS.F ht⟩) hS.2.2 dX9_upper_39
            · skip
              obtain ⟨rfl, h19⟩ := hr12
              have h19 : ¬ ((16 : Int) ≤ up.toInt ∧ up.toInt ≤ (31 : Int)) := h19
              refine lv_if_eq (tgt := 38) hx hb dX9_upper_30 (by decide) (fun c20 => ?_) (fun c20 => ?_)
              · skip
                refine lv_iconst (v := 0) hx hb dX9_upper_38 (by decide) ?_
                have hP9 := hP.sub (ws' := []) [] rfl
                have hD9 := hD.sub (ws' := []) [] (by decide) rfl
                refine W.widen (k := 0) (n := 0) (Nat.le_of_ble_eq_true rfl) (Nat.le_of_ble_eq_true rfl) ?_
                exact W.zret (v := 0) hx hb hr rfl (fun t ht hW => ⟨⟨0, (), rfl, by first | exact Or.inl ⟨rfl, by omega⟩ | exact Or.inr ⟨rfl, by omega⟩, ⟨by rw [ht]; exact hP9, hD9⟩⟩, hS.F ht⟩) hS.2.2 dX9_upper_39
              · skip
                exact absurd c20 (by decide)
      · skip
        obtain ⟨rfl, h21⟩ := hr5
        have h21 : ¬ ((0 : Int) ≤ nd.toInt ∧ nd.toInt ≤ (31 : Int)) := h21
        refine lv_if_eq (tgt := 38) hx hb dX9_upper_14 (by decide) (fun c22 => ?_) (fun c22 => ?_)
        · skip
          refine lv_iconst (v := 0) hx hb dX9_upper_38 (by decide) ?_
          have hP9 := hP.sub (ws' := []) [] rfl
          have hD9 := hD.sub (ws' := []) [] (by decide) rfl
          refine W.widen (k := 0) (n := 0) (Nat.le_of_ble_eq_true rfl) (Nat.le_of_ble_eq_true rfl) ?_
          exact W.zret (v := 0) hx hb hr rfl (fun t ht hW => ⟨⟨0, (), rfl, by first | exact Or.inl ⟨rfl, by omega⟩ | exact Or.inr ⟨rfl, by omega⟩, ⟨by rw [ht]; exact hP9, hD9⟩⟩, hS.F ht⟩) hS.2.2 dX9_upper_39
        · skip
          exact absurd c22 (by decide)
  · skip
    obtain ⟨rfl, h23⟩ := hr1
    have h23 : ¬ (0 ≤ c0.toInt ∧ c0.toInt ≤ 3) := h23
    refine lv_if_eq (tgt := 38) hx hb dX9_upper_4 (by decide) (fun c24 => ?_) (fun c24 => ?_)
    · skip
      refine lv_iconst (v := 0) hx hb dX9_upper_38 (by decide) ?_
      have hP9 := hP.sub (ws' := []) [] rfl
      have hD9 := hD.sub (ws' := []) [] (by decide) rfl
      refine W.widen (k := 0) (n := 0) (Nat.le_of_ble_eq_true rfl) (Nat.le_of_ble_eq_true rfl) ?_
      exact W.zret (v := 0) hx hb hr rfl (fun t ht hW => ⟨⟨0, (), rfl, by first | exact Or.inl ⟨rfl, by omega⟩ | exact Or.inr ⟨rfl, by omega⟩, ⟨by rw [ht]; exact hP9, hD9⟩⟩, hS.F ht⟩) hS.2.2 dX9_upper_39
    · skip
      exact absurd c24 (by decide)

set_option maxHeartbeats 4000000 in
set_option maxRecDepth 100000 in
theorem c_X9_weight (l : Launch) (g : zG) (sz : Nat) (h0 : Nat) (u1 : Value) (bmw : Nat) (mw : Nat → Int32) (u3 : Value) (u4 : Value) (u9 : Value) (u10 : Value) (u11 : Value) (u12 : Value) (u13 : Value) (u14 : Value) (u15 : Value) (u17 : Value) (u18 : Value) (u19 : Value) (u20 : Value) (u21 : Value) (u22 : Value) (u23 : Value) (u24 : Value) (u25 : Value) (u26 : Value) (u27 : Value) (u28 : Value) (u29 : Value) (u30 : Value) (u31 : Value) (u32 : Value) (u33 : Value) (u34 : Value) (u35 : Value) (u36 : Value) (u37 : Value) (u38 : Value) (u39 : Value) (u40 : Value) (u41 : Value) (u42 : Value) (u43 : Value) (u44 : Value) (u45 : Value) (u46 : Value) (c0 : Int32) (n : Int32) : Met l yX9_weight (zW yX9_weight cX9_weight 3 (some .boolean)) ({ frames := 1, cells := 0, slots := 0, locals := 22 }) (va_Pc [.ref h0, .int c0, .int n] (zA g [(h0, .inr (9, [.int 0, u1, .ref bmw, u3, u4, .int 0, .int 0, .int 0, .int 0, u9, u10, u11, u12, u13, u14, u15, .int 0, u17, u18, u19, u20, u21, u22, u23, u24, u25, u26, u27, u28, u29, u30, u31, u32, u33, u34, u35, u36, u37, u38, u39, u40, u41, u42, u43, u44, u45, u46])), (bmw, .inl (g.2 0, 4, .inl mw))] sz)) (va_Qi (fun (r : Int32) (_ : Unit) => (r = 1 ∧ (0 ≤ c0.toInt ∧ c0.toInt ≤ 3 ∧ (0 ≤ n.toInt ∧ n.toInt ≤ 99))) ∨ (r = 0 ∧ (¬ (0 ≤ c0.toInt ∧ c0.toInt ≤ 3 ∧ (0 ≤ n.toInt ∧ n.toInt ≤ 99))))) (fun _ t => zP g [] t.heap ∧ va_D (va_A [(h0, .inr (9, [.int 0, u1, .ref bmw, u3, u4, .int 0, .int 0, .int 0, .int 0, u9, u10, u11, u12, u13, u14, u15, .int 0, u17, u18, u19, u20, u21, u22, u23, u24, u25, u26, u27, u28, u29, u30, u31, u32, u33, u34, u35, u36, u37, u38, u39, u40, u41, u42, u43, u44, u45, u46])), (bmw, .inl (g.2 0, 4, .inl mw))] sz) []) (va_A [(h0, .inr (9, [.int 0, u1, .ref bmw, u3, u4, .int 0, .int 0, .int 0, .int 0, u9, u10, u11, u12, u13, u14, u15, .int 0, u17, u18, u19, u20, u21, u22, u23, u24, u25, u26, u27, u28, u29, u30, u31, u32, u33, u34, u35, u36, u37, u38, u39, u40, u41, u42, u43, u44, u45, u46])), (bmw, .inl (g.2 0, 4, .inl mw))] sz)) 0 0 (va_A [(h0, .inr (9, [.int 0, u1, .ref bmw, u3, u4, .int 0, .int 0, .int 0, .int 0, u9, u10, u11, u12, u13, u14, u15, .int 0, u17, u18, u19, u20, u21, u22, u23, u24, u25, u26, u27, u28, u29, u30, u31, u32, u33, u34, u35, u36, u37, u38, u39, u40, u41, u42, u43, u44, u45, u46])), (bmw, .inl (g.2 0, 4, .inl mw))] sz) := by
  refine Met.ofW (cc := cX9_weight) (maxL := 3) (ret := (some .boolean)) (by decide) rfl ?_
  intro p e s m args below meth c s₁ B hml hv
  obtain ⟨rfl, hsz, hP, hK, hD0, hN⟩ := hv
  have hx := B.exec
  have hb := B.bytes
  have hr := B.returns
  have hg := zW.law (atoms_spec (ws := (zW yX9_weight cX9_weight 3 (some .boolean))) B.pre)
  have hown : s.vm.findClass RX9 = some m.cls := findClass_of_methodNamed B.named
  have hlocks := B.notSynchronized
  subst hsz
  have hD := hD0.self (sz := s.heap.size)
  generalize hAe : va_A [(h0, .inr (9, [.int 0, u1, .ref bmw, u3, u4, .int 0, .int 0, .int 0, .int 0, u9, u10, u11, u12, u13, u14, u15, .int 0, u17, u18, u19, u20, u21, u22, u23, u24, u25, u26, u27, u28, u29, u30, u31, u32, u33, u34, u35, u36, u37, u38, u39, u40, u41, u42, u43, u44, u45, u46])), (bmw, .inl (g.2 0, 4, .inl mw))] s.heap.size = A at hD ⊢
  have hA : ∀ q : Nat, s.heap.size ≤ q → A q := fun q h => by rw [← hAe]; exact Or.inr h
  have hS : va_S A s.heap s.heap [] := va_S.rf
  have hl := lv_entry ([.ref h0, .int c0, .int n]) (n := 3) (Nat.le_of_ble_eq_true rfl)
  rw [lg_entry_eq]
  generalize (lg_sl ([.ref h0, .int c0, .int n]) ++ List.replicate (3 - (lg_sl ([.ref h0, .int c0, .int n])).length) Slot.unset).toArray = ls at hl ⊢
  have hl : lv_has ls 3 [(0, .ref h0), (1, .int c0), (2, .int n)] := hl
  refine lv_iload_n hx hb dX9_weight_0 rfl (lv_at hl 1 rfl) ?_
  have hPc := hP.sub (ws' := []) [] rfl
  refine zc_i (va_runS (As := [.int c0]) (rest := []) ⟨hx, hb, hml, hown, hg⟩ (c_X9_isColumn l g c0 ) (va_cwS 1 hg (z_gS mm_1106 mm_1107 mm_117 mm_1108) rfl rfl rfl (by decide +kernel) ⟨Nat.le_of_ble_eq_true rfl, Nat.le_of_ble_eq_true rfl⟩) (zR.pre [.int c0] hPc hK hN) rfl rfl hl.1 rfl (lv_room (Nat.le_of_ble_eq_true rfl)) dX9_weight_1 ⟨Nat.le_of_ble_eq_true rfl, Nat.le_of_ble_eq_true rfl⟩) (fun r1 hr1 => ?_)
  rcases hr1 with hr1 | hr1
  · skip
    obtain ⟨rfl, h2, h3⟩ := hr1
    have h2 : 0 ≤ c0.toInt := h2
    have h3 : c0.toInt ≤ 3 := h3
    refine lv_if_eq (tgt := 17) hx hb dX9_weight_4 (by decide) (fun c4 => ?_) (fun c4 => ?_)
    · skip
      exact absurd c4 (by decide)
    · skip
      refine lv_iload_n hx hb dX9_weight_7 rfl (lv_at hl 2 rfl) ?_
      refine lv_iconst (v := 0) hx hb dX9_weight_8 (by decide) ?_
      refine lv_bipush (v := 99) hx hb dX9_weight_9 (by decide) ?_
      have hPc := hP.sub (ws' := []) [] rfl
      refine zc_i (va_runS (As := [.int n, .int 0, .int 99]) (rest := []) ⟨hx, hb, hml, hown, hg⟩ (c_X9_in l g n (0 : Int32) (99 : Int32) ) (va_cwS 3 hg (z_gS mm_1109 mm_1110 mm_117 mm_1111) rfl rfl rfl (by decide +kernel) ⟨Nat.le_of_ble_eq_true rfl, Nat.le_of_ble_eq_true rfl⟩) (zR.pre [.int n, .int 0, .int 99] hPc hK hN) rfl rfl hl.1 rfl (lv_room (Nat.le_of_ble_eq_true rfl)) dX9_weight_11 ⟨Nat.le_of_ble_eq_true rfl, Nat.le_of_ble_eq_true rfl⟩) (fun r5 hr5 => ?_)
      rcases hr5 with hr5 | hr5
      · skip
        obtain ⟨rfl, h6, h7⟩ := hr5
        have h6 : (0 : Int) ≤ n.toInt := h6
        have h7 : n.toInt ≤ (99 : Int) := h7
        refine lv_if_ne (tgt := 19) hx hb dX9_weight_14 (by decide) (fun c8 => ?_) (fun c8 => ?_)
        · skip
          refine lv_aload_n hx hb dX9_weight_19 rfl (lv_at hl 0 rfl) ?_
          refine va_get (D := g.1) (ci := 9) (v := .ref bmw) (C := RX9) (T := TX9) (N := 47) hx hb hg inG9 hown hK hP 0 rfl rfl 2 (by decide) (hg _ mm_960) (fun _ h9 => h9) rfl dX9_weight_20 ?_
          refine lv_iload_n hx hb dX9_weight_23 rfl (lv_at hl 1 rfl) ?_
          refine lv_iload_n hx hb dX9_weight_24 rfl (lv_at hl 2 rfl) ?_
          refine va_iast hx hb hK hP hD hS 1 0 rfl rfl (z_in rfl (by omega) (by omega)) dX9_weight_25 (fun H locs hP hD hS => ?_)
          have hP : zP g [(h0, .inr (9, [.int 0, u1, .ref bmw, u3, u4, .int 0, .int 0, .int 0, .int 0, u9, u10, u11, u12, u13, u14, u15, .int 0, u17, u18, u19, u20, u21, u22, u23, u24, u25, u26, u27, u28, u29, u30, u31, u32, u33, u34, u35, u36, u37, u38, u39, u40, u41, u42, u43, u44, u45, u46])), (bmw, .inl (g.2 0, 4, .inl (upd mw (Int32.toNatClampNeg c0) n)))] H := hP
          have hD : va_D A [(h0, .inr (9, [.int 0, u1, .ref bmw, u3, u4, .int 0, .int 0, .int 0, .int 0, u9, u10, u11, u12, u13, u14, u15, .int 0, u17, u18, u19, u20, u21, u22, u23, u24, u25, u26, u27, u28, u29, u30, u31, u32, u33, u34, u35, u36, u37, u38, u39, u40, u41, u42, u43, u44, u45, u46])), (bmw, .inl (g.2 0, 4, .inl (upd mw (Int32.toNatClampNeg c0) n)))] := hD
          refine lv_iconst (v := 1) hx hb dX9_weight_26 (by decide) ?_
          have hP9 := hP.sub (ws' := []) [] rfl
          have hD9 := hD.sub (ws' := []) [] (by decide) rfl
          refine W.widen (k := 0) (n := 0) (Nat.le_of_ble_eq_true rfl) (Nat.le_of_ble_eq_true rfl) ?_
          exact W.zret (v := 1) hx hb hr rfl (fun t ht hW => ⟨⟨1, (), rfl, by first | exact Or.inl ⟨rfl, by omega⟩ | exact Or.inr ⟨rfl, by omega⟩, ⟨by rw [ht]; exact hP9, hD9⟩⟩, hS.F ht⟩) hS.2.2 dX9_weight_27
        · skip
          exact absurd c8 (by decide)
      · skip
        obtain ⟨rfl, h9⟩ := hr5
        have h9 : ¬ ((0 : Int) ≤ n.toInt ∧ n.toInt ≤ (99 : Int)) := h9
        refine lv_if_ne (tgt := 19) hx hb dX9_weight_14 (by decide) (fun c10 => ?_) (fun c10 => ?_)
        · skip
          exact absurd c10 (by decide)
        · skip
          refine lv_iconst (v := 0) hx hb dX9_weight_17 (by decide) ?_
          have hP9 := hP.sub (ws' := []) [] rfl
          have hD9 := hD.sub (ws' := []) [] (by decide) rfl
          refine W.widen (k := 0) (n := 0) (Nat.le_of_ble_eq_true rfl) (Nat.le_of_ble_eq_true rfl) ?_
          exact W.zret (v := 0) hx hb hr rfl (fun t ht hW => ⟨⟨0, (), rfl, by first | exact Or.inl ⟨rfl, by omega⟩ | exact Or.inr ⟨rfl, by omega⟩, ⟨by rw [ht]; exact hP9, hD9⟩⟩, hS.F ht⟩) hS.2.2 dX9_weight_18
  · skip
    obtain ⟨rfl, h11⟩ := hr1
    have h11 : ¬ (0 ≤ c0.toInt ∧ c0.toInt ≤ 3) := h11
    refine lv_if_eq (tgt := 17) hx hb dX9_weight_4 (by decide) (fun c12 => ?_) (fun c12 => ?_)
    · skip
      refine lv_iconst (v := 0) hx hb dX9_weight_17 (by decide) ?_
      have hP9 := hP.sub (ws' := []) [] rfl
      have hD9 := hD.sub (ws' := []) [] (by decide) rfl
      refine W.widen (k := 0) (n := 0) (Nat.le_of_ble_eq_true rfl) (Nat.le_of_ble_eq_true rfl) ?_
      exact W.zret (v := 0) hx hb hr rfl (fun t ht hW => ⟨⟨0, (), rfl, by first | exact Or.inl ⟨rfl, by omega⟩ | exact Or.inr ⟨rfl, by omega⟩, ⟨by rw [ht]; exact hP9, hD9⟩⟩, hS.F ht⟩) hS.2.2 dX9_weight_18
    · skip
      exact absurd c12 (by decide)

set_option maxHeartbeats 4000000 in
set_option maxRecDepth 100000 in
theorem c_X9_person (l : Launch) (g : zG) (sz : Nat) (h0 : Nat) (u1 : Value) (u2 : Value) (bmv : Nat) (mv : Nat → Int32) (u4 : Value) (u9 : Value) (u10 : Value) (u11 : Value) (u12 : Value) (u13 : Value) (u14 : Value) (u15 : Value) (u17 : Value) (u18 : Value) (u19 : Value) (u20 : Value) (u21 : Value) (u22 : Value) (u23 : Value) (u24 : Value) (u25 : Value) (u26 : Value) (u27 : Value) (u28 : Value) (u29 : Value) (u30 : Value) (u31 : Value) (u32 : Value) (u33 : Value) (u34 : Value) (u35 : Value) (u36 : Value) (u37 : Value) (u38 : Value) (u39 : Value) (u40 : Value) (u41 : Value) (u42 : Value) (u43 : Value) (u44 : Value) (u45 : Value) (u46 : Value) (a : Int32) (b : Int32) (c0 : Int32) (d0 : Int32) : Met l yX9_person (zW yX9_person cX9_person 5 (some .int)) ({ frames := 1, cells := 0, slots := 0, locals := 22 }) (va_Pc [.ref h0, .int a, .int b, .int c0, .int d0] (zA g [(h0, .inr (9, [.int 0, u1, u2, .ref bmv, u4, .int 0, .int 0, .int 0, .int 0, u9, u10, u11, u12, u13, u14, u15, .int 0, u17, u18, u19, u20, u21, u22, u23, u24, u25, u26, u27, u28, u29, u30, u31, u32, u33, u34, u35, u36, u37, u38, u39, u40, u41, u42, u43, u44, u45, u46])), (bmv, .inl (g.2 0, 64, .inl mv))] sz)) (va_Qi (fun (r : Int32) (_ : Unit) => (r = 0 ∧ ((0 ≤ a.toInt ∧ a.toInt ≤ 15) ∧ (0 ≤ b.toInt ∧ b.toInt ≤ 15) ∧ (0 ≤ c0.toInt ∧ c0.toInt ≤ 15) ∧ 0 ≤ d0.toInt ∧ d0.toInt ≤ 15)) ∨ (r = (-1) ∧ (¬ ((0 ≤ a.toInt ∧ a.toInt ≤ 15) ∧ (0 ≤ b.toInt ∧ b.toInt ≤ 15) ∧ (0 ≤ c0.toInt ∧ c0.toInt ≤ 15) ∧ 0 ≤ d0.toInt ∧ d0.toInt ≤ 15)))) (fun _ t => zP g [] t.heap ∧ va_D (va_A [(h0, .inr (9, [.int 0, u1, u2, .ref bmv, u4, .int 0, .int 0, .int 0, .int 0, u9, u10, u11, u12, u13, u14, u15, .int 0, u17, u18, u19, u20, u21, u22, u23, u24, u25, u26, u27, u28, u29, u30, u31, u32, u33, u34, u35, u36, u37, u38, u39, u40, u41, u42, u43, u44, u45, u46])), (bmv, .inl (g.2 0, 64, .inl mv))] sz) []) (va_A [(h0, .inr (9, [.int 0, u1, u2, .ref bmv, u4, .int 0, .int 0, .int 0, .int 0, u9, u10, u11, u12, u13, u14, u15, .int 0, u17, u18, u19, u20, u21, u22, u23, u24, u25, u26, u27, u28, u29, u30, u31, u32, u33, u34, u35, u36, u37, u38, u39, u40, u41, u42, u43, u44, u45, u46])), (bmv, .inl (g.2 0, 64, .inl mv))] sz)) 0 0 (va_A [(h0, .inr (9, [.int 0, u1, u2, .ref bmv, u4, .int 0, .int 0, .int 0, .int 0, u9, u10, u11, u12, u13, u14, u15, .int 0, u17, u18, u19, u20, u21, u22, u23, u24, u25, u26, u27, u28, u29, u30, u31, u32, u33, u34, u35, u36, u37, u38, u39, u40, u41, u42, u43, u44, u45, u46])), (bmv, .inl (g.2 0, 64, .inl mv))] sz) := by
  refine Met.ofW (cc := cX9_person) (maxL := 5) (ret := (some .int)) (by decide) rfl ?_
  intro p e s m args below meth c s₁ B hml hv
  obtain ⟨rfl, hsz, hP, hK, hD0, hN⟩ := hv
  have hx := B.exec
  have hb := B.bytes
  have hr := B.returns
  have hg := zW.law (atoms_spec (ws := (zW yX9_person cX9_person 5 (some .int))) B.pre)
  have hown : s.vm.findClass RX9 = some m.cls := findClass_of_methodNamed B.named
  have hlocks := B.notSynchronized
  subst hsz
  have hD := hD0.self (sz := s.heap.size)
  generalize hAe : va_A [(h0, .inr (9, [.int 0, u1, u2, .ref bmv, u4, .int 0, .int 0, .int 0, .int 0, u9, u10, u11, u12, u13, u14, u15, .int 0, u17, u18, u19, u20, u21, u22, u23, u24, u25, u26, u27, u28, u29, u30, u31, u32, u33, u34, u35, u36, u37, u38, u39, u40, u41, u42, u43, u44, u45, u46])), (bmv, .inl (g.2 0, 64, .inl mv))] s.heap.size = A at hD ⊢
  have hA : ∀ q : Nat, s.heap.size ≤ q → A q := fun q h => by rw [← hAe]; exact Or.inr h
  have hS : va_S A s.heap s.heap [] := va_S.rf
  have hl := lv_entry ([.ref h0, .int a, .int b, .int c0, .int d0]) (n := 5) (Nat.le_of_ble_eq_true rfl)
  rw [lg_entry_eq]
  generalize (lg_sl ([.ref h0, .int a, .int b, .int c0, .int d0]) ++ List.replicate (5 - (lg_sl ([.ref h0, .int a, .int b, .int c0, .int d0])).length) Slot.unset).toArray = ls at hl ⊢
  have hl : lv_has ls 5 [(0, .ref h0), (1, .int a), (2, .int b), (3, .int c0), (4, .int d0)] := hl
  refine lv_iload_n hx hb dX9_person_0 rfl (lv_at hl 1 rfl) ?_
  refine lv_iconst (v := 0) hx hb dX9_person_1 (by decide) ?_
  refine lv_bipush (v := 15) hx hb dX9_person_2 (by decide) ?_
  have hPc := hP.sub (ws' := []) [] rfl
  refine zc_i (va_runS (As := [.int a, .int 0, .int 15]) (rest := []) ⟨hx, hb, hml, hown, hg⟩ (c_X9_in l g a (0 : Int32) (15 : Int32) ) (va_cwS 3 hg (z_gS mm_1109 mm_1110 mm_117 mm_1111) rfl rfl rfl (by decide +kernel) ⟨Nat.le_of_ble_eq_true rfl, Nat.le_of_ble_eq_true rfl⟩) (zR.pre [.int a, .int 0, .int 15] hPc hK hN) rfl rfl hl.1 rfl (lv_room (Nat.le_of_ble_eq_true rfl)) dX9_person_4 ⟨Nat.le_of_ble_eq_true rfl, Nat.le_of_ble_eq_true rfl⟩) (fun r1 hr1 => ?_)
  rcases hr1 with hr1 | hr1
  · skip
    obtain ⟨rfl, h2, h3⟩ := hr1
    have h2 : (0 : Int) ≤ a.toInt := h2
    have h3 : a.toInt ≤ (15 : Int) := h3
    refine lv_if_eq (tgt := 50) hx hb dX9_person_7 (by decide) (fun c4 => ?_) (fun c4 => ?_)
    · skip
      exact absurd c4 (by decide)
    · skip
      refine lv_iload_n hx hb dX9_person_10 rfl (lv_at hl 2 rfl) ?_
      refine lv_iconst (v := 0) hx hb dX9_person_11 (by decide) ?_
      refine lv_bipush (v := 15) hx hb dX9_person_12 (by decide) ?_
      have hPc := hP.sub (ws' := []) [] rfl
      refine zc_i (va_runS (As := [.int b, .int 0, .int 15]) (rest := []) ⟨hx, hb, hml, hown, hg⟩ (c_X9_in l g b (0 : Int32) (15 : Int32) ) (va_cwS 3 hg (z_gS mm_1109 mm_1110 mm_117 mm_1111) rfl rfl rfl (by decide +kernel) ⟨Nat.le_of_ble_eq_true rfl, Nat.le_of_ble_eq_true rfl⟩) (zR.pre [.int b, .int 0, .int 15] hPc hK hN) rfl rfl hl.1 rfl (lv_room (Nat.le_of_ble_eq_true rfl)) dX9_person_14 ⟨Nat.le_of_ble_eq_true rfl, Nat.le_of_ble_eq_true rfl⟩) (fun r5 hr5 => ?_)
      rcases hr5 with hr5 | hr5
      · skip
        obtain ⟨rfl, h6, h7⟩ := hr5
        have h6 : (0 : Int) ≤ b.toInt := h6
        have h7 : b.toInt ≤ (15 : Int) := h7
        refine lv_if_eq (tgt := 50) hx hb dX9_person_17 (by decide) (fun c8 => ?_) (fun c8 => ?_)
        · skip
          exact absurd c8 (by decide)
        · skip
          refine lv_iload_n hx hb dX9_person_20 rfl (lv_at hl 3 rfl) ?_
          refine lv_iconst (v := 0) hx hb dX9_person_21 (by decide) ?_
          refine lv_bipush (v := 15) hx hb dX9_person_22 (by decide) ?_
          have hPc := hP.sub (ws' := []) [] rfl
          refine zc_i (va_runS (As := [.int c0, .int 0, .int 15]) (rest := []) ⟨hx, hb, hml, hown, hg⟩ (c_X9_in l g c0 (0 : Int32) (15 : Int32) ) (va_cwS 3 hg (z_gS mm_1109 mm_1110 mm_117 mm_1111) rfl rfl rfl (by decide +kernel) ⟨Nat.le_of_ble_eq_true rfl, Nat.le_of_ble_eq_true rfl⟩) (zR.pre [.int c0, .int 0, .int 15] hPc hK hN) rfl rfl hl.1 rfl (lv_room (Nat.le_of_ble_eq_true rfl)) dX9_person_24 ⟨Nat.le_of_ble_eq_true rfl, Nat.le_of_ble_eq_true rfl⟩) (fun r9 hr9 => ?_)
          rcases hr9 with hr9 | hr9
          · skip
            obtain ⟨rfl, h10, h11⟩ := hr9
            have h10 : (0 : Int) ≤ c0.toInt := h10
            have h11 : c0.toInt ≤ (15 : Int) := h11
            refine lv_if_eq (tgt := 50) hx hb dX9_person_27 (by decide) (fun c12 => ?_) (fun c12 => ?_)
            · skip
              exact absurd c12 (by decide)
            · skip
              refine lv_iload hx hb dX9_person_30 (lv_at hl 4 rfl) ?_
              refine lv_iconst (v := 0) hx hb dX9_person_32 (by decide) ?_
              refine lv_bipush (v := 15) hx hb dX9_person_33 (by decide) ?_
              have hPc := hP.sub (ws' := []) [] rfl
              refine zc_i (va_runS (As := [.int d0, .int 0, .int 15]) (rest := []) ⟨hx, hb, hml, hown, hg⟩ (c_X9_in l g d0 (0 : Int32) (15 : Int32) ) (va_cwS 3 hg (z_gS mm_1109 mm_1110 mm_117 mm_1111) rfl rfl rfl (by decide +kernel) ⟨Nat.le_of_ble_eq_true rfl, Nat.le_of_ble_eq_true rfl⟩) (zR.pre [.int d0, .int 0, .int 15] hPc hK hN) rfl rfl hl.1 rfl (lv_room (Nat.le_of_ble_eq_true rfl)) dX9_person_35 ⟨Nat.le_of_ble_eq_true rfl, Nat.le_of_ble_eq_true rfl⟩) (fun r13 hr13 => ?_)
              rcases hr13 with hr13 | hr13
              · skip
                obtain ⟨rfl, h14, h15⟩ := hr13
                have h14 : (0 : Int) ≤ d0.toInt := h14
                have h15 : d0.toInt ≤ (15 : Int) := h15
                refine lv_if_eq (tgt := 50) hx hb dX9_person_38 (by decide) (fun c16 => ?_) (fun c16 => ?_)
                · skip
                  exact absurd c16 (by decide)
                · skip
                  refine lv_aload_n hx hb dX9_person_41 rfl (lv_at hl 0 rfl) ?_
                  refine va_get (D := g.1) (ci := 9) (v := .int 0) (C := RX9) (T := TX9) (N := 47) hx hb hg inG9 hown hK hP 0 rfl rfl 0 (by decide) (hg _ mm_958) (fun _ h9 => h9) rfl dX9_person_42 ?_
                  refine lv_bipush (v := 16) hx hb dX9_person_45 (by decide) ?_
                  refine lv_icmp_ne (tgt := 52) hx hb dX9_person_47 (by decide) (fun c17 => ?_) (fun c17 => ?_)
                  · skip
                    refine lv_aload_n hx hb dX9_person_52 rfl (lv_at hl 0 rfl) ?_
                    refine va_get (D := g.1) (ci := 9) (v := .ref bmv) (C := RX9) (T := TX9) (N := 47) hx hb hg inG9 hown hK hP 0 rfl rfl 3 (by decide) (hg _ mm_961) (fun _ h9 => h9) rfl dX9_person_53 ?_
                    refine lv_iconst (v := 4) hx hb dX9_person_56 (by decide) ?_
                    refine lv_aload_n hx hb dX9_person_57 rfl (lv_at hl 0 rfl) ?_
                    refine va_get (D := g.1) (ci := 9) (v := .int 0) (C := RX9) (T := TX9) (N := 47) hx hb hg inG9 hown hK hP 0 rfl rfl 0 (by decide) (hg _ mm_958) (fun _ h9 => h9) rfl dX9_person_58 ?_
                    refine lv_imul hx hb dX9_person_61 ?_
                    refine lv_topi (fun x18 ex18 => ?_)
                    obtain rfl : x18 = 0 := ex18.trans (by decide)
                    refine lv_iload_n hx hb dX9_person_62 rfl (lv_at hl 1 rfl) ?_
                    refine va_iast hx hb hK hP hD hS 1 0 rfl rfl (z_in (by decide : (0 : Int32).toInt = 0) (by omega) (by omega)) dX9_person_63 (fun H locs hP hD hS => ?_)
                    rw [show (0 : Int32).toNatClampNeg = 0 from (by decide)] at hP hD
                    have hP : zP g [(h0, .inr (9, [.int 0, u1, u2, .ref bmv, u4, .int 0, .int 0, .int 0, .int 0, u9, u10, u11, u12, u13, u14, u15, .int 0, u17, u18, u19, u20, u21, u22, u23, u24, u25, u26, u27, u28, u29, u30, u31, u32, u33, u34, u35, u36, u37, u38, u39, u40, u41, u42, u43, u44, u45, u46])), (bmv, .inl (g.2 0, 64, .inl (upd mv 0 a)))] H := hP
                    have hD : va_D A [(h0, .inr (9, [.int 0, u1, u2, .ref bmv, u4, .int 0, .int 0, .int 0, .int 0, u9, u10, u11, u12, u13, u14, u15, .int 0, u17, u18, u19, u20, u21, u22, u23, u24, u25, u26, u27, u28, u29, u30, u31, u32, u33, u34, u35, u36, u37, u38, u39, u40, u41, u42, u43, u44, u45, u46])), (bmv, .inl (g.2 0, 64, .inl (upd mv 0 a)))] := hD
                    refine lv_aload_n hx hb dX9_person_64 rfl (lv_at hl 0 rfl) ?_
                    refine va_get (D := g.1) (ci := 9) (v := .ref bmv) (C := RX9) (T := TX9) (N := 47) hx hb hg inG9 hown hK hP 0 rfl rfl 3 (by decide) (hg _ mm_961) (fun _ h9 => h9) rfl dX9_person_65 ?_
                    refine lv_iconst (v := 4) hx hb dX9_person_68 (by decide) ?_
                    refine lv_aload_n hx hb dX9_person_69 rfl (lv_at hl 0 rfl) ?_
                    refine va_get (D := g.1) (ci := 9) (v := .int 0) (C := RX9) (T := TX9) (N := 47) hx hb hg inG9 hown hK hP 0 rfl rfl 0 (by decide) (hg _ mm_958) (fun _ h9 => h9) rfl dX9_person_70 ?_
                    refine lv_imul hx hb dX9_person_73 ?_
                    refine lv_topi (fun x19 ex19 => ?_)
                    obtain rfl : x19 = 0 := ex19.trans (by decide)
                    refine lv_iconst (v := 1) hx hb dX9_person_74 (by decide) ?_
                    refine lv_iadd hx hb dX9_person_75 ?_
                    refine lv_topi (fun x20 ex20 => ?_)
                    obtain rfl : x20 = 1 := ex20.trans (by decide)
                    refine lv_iload_n hx hb dX9_person_76 rfl (lv_at hl 2 rfl) ?_
                    refine va_iast hx hb hK hP hD hS 1 0 rfl rfl (z_in (by decide : (1 : Int32).toInt = 1) (by omega) (by omega)) dX9_person_77 (fun H locs hP hD hS => ?_)
                    rw [show (1 : Int32).toNatClampNeg = 1 from (by decide)] at hP hD
                    have hP : zP g [(h0, .inr (9, [.int 0, u1, u2, .ref bmv, u4, .int 0, .int 0, .int 0, .int 0, u9, u10, u11, u12, u13, u14, u15, .int 0, u17, u18, u19, u20, u21, u22, u23, u24, u25, u26, u27, u28, u29, u30, u31, u32, u33, u34, u35, u36, u37, u38, u39, u40, u41, u42, u43, u44, u45, u46])), (bmv, .inl (g.2 0, 64, .inl (upd (upd mv 0 a) 1 b)))] H := hP
                    have hD : va_D A [(h0, .inr (9, [.int 0, u1, u2, .ref bmv, u4, .int 0, .int 0, .int 0, .int 0, u9, u10, u11, u12, u13, u14, u15, .int 0, u17, u18, u19, u20, u21, u22, u23, u24, u25, u26, u27, u28, u29, u30, u31, u32, u33, u34, u35, u36, u37, u38, u39, u40, u41, u42, u43, u44, u45, u46])), (bmv, .inl (g.2 0, 64, .inl (upd (upd mv 0 a) 1 b)))] := hD
                    refine lv_aload_n hx hb dX9_person_78 rfl (lv_at hl 0 rfl) ?_
                    refine va_get (D := g.1) (ci := 9) (v := .ref bmv) (C := RX9) (T := TX9) (N := 47) hx hb hg inG9 hown hK hP 0 rfl rfl 3 (by decide) (hg _ mm_961) (fun _ h9 => h9) rfl dX9_person_79 ?_
                    refine lv_iconst (v := 4) hx hb dX9_person_82 (by decide) ?_
                    refine lv_aload_n hx hb dX9_person_83 rfl (lv_at hl 0 rfl) ?_
                    refine va_get (D := g.1) (ci := 9) (v := .int 0) (C := RX9) (T := TX9) (N := 47) hx hb hg inG9 hown hK hP 0 rfl rfl 0 (by decide) (hg _ mm_958) (fun _ h9 => h9) rfl dX9_person_84 ?_
                    refine lv_imul hx hb dX9_person_87 ?_
                    refine lv_topi (fun x21 ex21 => ?_)
                    obtain rfl : x21 = 0 := ex21.trans (by decide)
                    refine lv_iconst (v := 2) hx hb dX9_person_88 (by decide) ?_
                    refine lv_iadd hx hb dX9_person_89 ?_
                    refine lv_topi (fun x22 ex22 => ?_)
                    obtain rfl : x22 = 2 := ex22.trans (by decide)
                    refine lv_iload_n hx hb dX9_person_90 rfl (lv_at hl 3 rfl) ?_
                    refine va_iast hx hb hK hP hD hS 1 0 rfl rfl (z_in (by decide : (2 : Int32).toInt = 2) (by omega) (by omega)) dX9_person_91 (fun H locs hP hD hS => ?_)
                    rw [show (2 : Int32).toNatClampNeg = 2 from (by decide)] at hP hD
                    have hP : zP g [(h0, .inr (9, [.int 0, u1, u2, .ref bmv, u4, .int 0, .int 0, .int 0, .int 0, u9, u10, u11, u12, u13, u14, u15, .int 0, u17, u18, u19, u20, u21, u22, u23, u24, u25, u26, u27, u28, u29, u30, u31, u32, u33, u34, u35, u36, u37, u38, u39, u40, u41, u42, u43, u44, u45, u46])), (bmv, .inl (g.2 0, 64, .inl (upd (upd (upd mv 0 a) 1 b) 2 c0)))] H := hP
                    have hD : va_D A [(h0, .inr (9, [.int 0, u1, u2, .ref bmv, u4, .int 0, .int 0, .int 0, .int 0, u9, u10, u11, u12, u13, u14, u15, .int 0, u17, u18, u19, u20, u21, u22, u23, u24, u25, u26, u27, u28, u29, u30, u31, u32, u33, u34, u35, u36, u37, u38, u39, u40, u41, u42, u43, u44, u45, u46])), (bmv, .inl (g.2 0, 64, .inl (upd (upd (upd mv 0 a) 1 b) 2 c0)))] := hD
                    refine lv_aload_n hx hb dX9_person_92 rfl (lv_at hl 0 rfl) ?_
                    refine va_get (D := g.1) (ci := 9) (v := .ref bmv) (C := RX9) (T := TX9) (N := 47) hx hb hg inG9 hown hK hP 0 rfl rfl 3 (by decide) (hg _ mm_961) (fun _ h9 => h9) rfl dX9_person_93 ?_
                    refine lv_iconst (v := 4) hx hb dX9_person_96 (by decide) ?_
                    refine lv_aload_n hx hb dX9_person_97 rfl (lv_at hl 0 rfl) ?_
                    refine va_get (D := g.1) (ci := 9) (v := .int 0) (C := RX9) (T := TX9) (N := 47) hx hb hg inG9 hown hK hP 0 rfl rfl 0 (by decide) (hg _ mm_958) (fun _ h9 => h9) rfl dX9_person_98 ?_
                    refine lv_imul hx hb dX9_person_101 ?_
                    refine lv_topi (fun x23 ex23 => ?_)
                    obtain rfl : x23 = 0 := ex23.trans (by decide)
                    refine lv_iconst (v := 3) hx hb dX9_person_102 (by decide) ?_
                    refine lv_iadd hx hb dX9_person_103 ?_
                    refine lv_topi (fun x24 ex24 => ?_)
                    obtain rfl : x24 = 3 := ex24.trans (by decide)
                    refine lv_iload hx hb dX9_person_104 (lv_at hl 4 rfl) ?_
                    refine va_iast hx hb hK hP hD hS 1 0 rfl rfl (z_in (by decide : (3 : Int32).toInt = 3) (by omega) (by omega)) dX9_person_106 (fun H locs hP hD hS => ?_)
                    rw [show (3 : Int32).toNatClampNeg = 3 from (by decide)] at hP hD
                    have hP : zP g [(h0, .inr (9, [.int 0, u1, u2, .ref bmv, u4, .int 0, .int 0, .int 0, .int 0, u9, u10, u11, u12, u13, u14, u15, .int 0, u17, u18, u19, u20, u21, u22, u23, u24, u25, u26, u27, u28, u29, u30, u31, u32, u33, u34, u35, u36, u37, u38, u39, u40, u41, u42, u43, u44, u45, u46])), (bmv, .inl (g.2 0, 64, .inl (upd (upd (upd (upd mv 0 a) 1 b) 2 c0) 3 d0)))] H := hP
                    have hD : va_D A [(h0, .inr (9, [.int 0, u1, u2, .ref bmv, u4, .int 0, .int 0, .int 0, .int 0, u9, u10, u11, u12, u13, u14, u15, .int 0, u17, u18, u19, u20, u21, u22, u23, u24, u25, u26, u27, u28, u29, u30, u31, u32, u33, u34, u35, u36, u37, u38, u39, u40, u41, u42, u43, u44, u45, u46])), (bmv, .inl (g.2 0, 64, .inl (upd (upd (upd (upd mv 0 a) 1 b) 2 c0) 3 d0)))] := hD
                    refine lv_aload_n hx hb dX9_person_107 rfl (lv_at hl 0 rfl) ?_
                    refine lv_aload_n hx hb dX9_person_108 rfl (lv_at hl 0 rfl) ?_
                    refine va_get (D := g.1) (ci := 9) (v := .int 0) (C := RX9) (T := TX9) (N := 47) hx hb hg inG9 hown hK hP 0 rfl rfl 0 (by decide) (hg _ mm_958) (fun _ h9 => h9) rfl dX9_person_109 ?_
                    refine lv_iconst (v := 1) hx hb dX9_person_112 (by decide) ?_
                    refine lv_iadd hx hb dX9_person_113 ?_
                    refine lv_topi (fun x25 ex25 => ?_)
                    obtain rfl : x25 = 1 := ex25.trans (by decide)
                    refine va_put (D := g.1) (ci := 9) (v := .int 1) (ty := .int) (C := RX9) (T := TX9) (N := 47) hx hb hg inG9 tyX9 tyX9_ok nmX9 hown hK hP hD hS 0 rfl rfl 0 (by decide) (hg _ mm_958) (fun _ h9 => h9) rfl (by decide +kernel) rfl rfl (Nat.le_of_ble_eq_true rfl) dX9_person_114 (fun H locs hP hD hS => ?_)
                    have hP : zP g [(h0, .inr (9, [.int 1, u1, u2, .ref bmv, u4, .int 0, .int 0, .int 0, .int 0, u9, u10, u11, u12, u13, u14, u15, .int 0, u17, u18, u19, u20, u21, u22, u23, u24, u25, u26, u27, u28, u29, u30, u31, u32, u33, u34, u35, u36, u37, u38, u39, u40, u41, u42, u43, u44, u45, u46])), (bmv, .inl (g.2 0, 64, .inl (upd (upd (upd (upd mv 0 a) 1 b) 2 c0) 3 d0)))] H := hP
                    have hD : va_D A [(h0, .inr (9, [.int 1, u1, u2, .ref bmv, u4, .int 0, .int 0, .int 0, .int 0, u9, u10, u11, u12, u13, u14, u15, .int 0, u17, u18, u19, u20, u21, u22, u23, u24, u25, u26, u27, u28, u29, u30, u31, u32, u33, u34, u35, u36, u37, u38, u39, u40, u41, u42, u43, u44, u45, u46])), (bmv, .inl (g.2 0, 64, .inl (upd (upd (upd (upd mv 0 a) 1 b) 2 c0) 3 d0)))] := hD
                    refine lv_aload_n hx hb dX9_person_117 rfl (lv_at hl 0 rfl) ?_
                    refine va_get (D := g.1) (ci := 9) (v := .int 1) (C := RX9) (T := TX9) (N := 47) hx hb hg inG9 hown hK hP 0 rfl rfl 0 (by decide) (hg _ mm_958) (fun _ h9 => h9) rfl dX9_person_118 ?_
                    refine lv_iconst (v := 1) hx hb dX9_person_121 (by decide) ?_
                    refine lv_isub hx hb dX9_person_122 ?_
                    refine lv_topi (fun x26 ex26 => ?_)
                    obtain rfl : x26 = 0 := ex26.trans (by decide)
                    have hP9 := hP.sub (ws' := []) [] rfl
                    have hD9 := hD.sub (ws' := []) [] (by decide) rfl
                    refine W.widen (k := 0) (n := 0) (Nat.le_of_ble_eq_true rfl) (Nat.le_of_ble_eq_true rfl) ?_
                    exact W.iret (v := 0) hx hb hr (fun t ht hW => ⟨⟨0, (), rfl, by first | exact Or.inl ⟨rfl, by omega⟩ | exact Or.inr ⟨rfl, by omega⟩, ⟨by rw [ht]; exact hP9, hD9⟩⟩, hS.F ht⟩) hS.2.2 dX9_person_123
                  · skip
                    exact absurd c17 (by decide)
              · skip
                obtain ⟨rfl, h27⟩ := hr13
                have h27 : ¬ ((0 : Int) ≤ d0.toInt ∧ d0.toInt ≤ (15 : Int)) := h27
                refine lv_if_eq (tgt := 50) hx hb dX9_person_38 (by decide) (fun c28 => ?_) (fun c28 => ?_)
                · skip
                  refine lv_iconst (v := (-1)) hx hb dX9_person_50 (by decide) ?_
                  have hP9 := hP.sub (ws' := []) [] rfl
                  have hD9 := hD.sub (ws' := []) [] (by decide) rfl
                  refine W.widen (k := 0) (n := 0) (Nat.le_of_ble_eq_true rfl) (Nat.le_of_ble_eq_true rfl) ?_
                  exact W.iret (v := (-1)) hx hb hr (fun t ht hW => ⟨⟨(-1), (), rfl, by first | exact Or.inl ⟨rfl, by omega⟩ | exact Or.inr ⟨rfl, by omega⟩, ⟨by rw [ht]; exact hP9, hD9⟩⟩, hS.F ht⟩) hS.2.2 dX9_person_51
                · skip
                  exact absurd c28 (by decide)
          · skip
            obtain ⟨rfl, h29⟩ := hr9
            have h29 : ¬ ((0 : Int) ≤ c0.toInt ∧ c0.toInt ≤ (15 : Int)) := h29
            refine lv_if_eq (tgt := 50) hx hb dX9_person_27 (by decide) (fun c30 => ?_) (fun c30 => ?_)
            · skip
              refine lv_iconst (v := (-1)) hx hb dX9_person_50 (by decide) ?_
              have hP9 := hP.sub (ws' := []) [] rfl
              have hD9 := hD.sub (ws' := []) [] (by decide) rfl
              refine W.widen (k := 0) (n := 0) (Nat.le_of_ble_eq_true rfl) (Nat.le_of_ble_eq_true rfl) ?_
              exact W.iret (v := (-1)) hx hb hr (fun t ht hW => ⟨⟨(-1), (), rfl, by first | exact Or.inl ⟨rfl, by omega⟩ | exact Or.inr ⟨rfl, by omega⟩, ⟨by rw [ht]; exact hP9, hD9⟩⟩, hS.F ht⟩) hS.2.2 dX9_person_51
            · skip
              exact absurd c30 (by decide)
      · skip
        obtain ⟨rfl, h31⟩ := hr5
        have h31 : ¬ ((0 : Int) ≤ b.toInt ∧ b.toInt ≤ (15 : Int)) := h31
        refine lv_if_eq (tgt := 50) hx hb dX9_person_17 (by decide) (fun c32 => ?_) (fun c32 => ?_)
        · skip
          refine lv_iconst (v := (-1)) hx hb dX9_person_50 (by decide) ?_
          have hP9 := hP.sub (ws' := []) [] rfl
          have hD9 := hD.sub (ws' := []) [] (by decide) rfl
          refine W.widen (k := 0) (n := 0) (Nat.le_of_ble_eq_true rfl) (Nat.le_of_ble_eq_true rfl) ?_
          exact W.iret (v := (-1)) hx hb hr (fun t ht hW => ⟨⟨(-1), (), rfl, by first | exact Or.inl ⟨rfl, by omega⟩ | exact Or.inr ⟨rfl, by omega⟩, ⟨by rw [ht]; exact hP9, hD9⟩⟩, hS.F ht⟩) hS.2.2 dX9_person_51
        · skip
          exact absurd c32 (by decide)
  · skip
    obtain ⟨rfl, h33⟩ := hr1
    have h33 : ¬ ((0 : Int) ≤ a.toInt ∧ a.toInt ≤ (15 : Int)) := h33
    refine lv_if_eq (tgt := 50) hx hb dX9_person_7 (by decide) (fun c34 => ?_) (fun c34 => ?_)
    · skip
      refine lv_iconst (v := (-1)) hx hb dX9_person_50 (by decide) ?_
      have hP9 := hP.sub (ws' := []) [] rfl
      have hD9 := hD.sub (ws' := []) [] (by decide) rfl
      refine W.widen (k := 0) (n := 0) (Nat.le_of_ble_eq_true rfl) (Nat.le_of_ble_eq_true rfl) ?_
      exact W.iret (v := (-1)) hx hb hr (fun t ht hW => ⟨⟨(-1), (), rfl, by first | exact Or.inl ⟨rfl, by omega⟩ | exact Or.inr ⟨rfl, by omega⟩, ⟨by rw [ht]; exact hP9, hD9⟩⟩, hS.F ht⟩) hS.2.2 dX9_person_51
    · skip
      exact absurd c34 (by decide)

set_option maxHeartbeats 4000000 in
set_option maxRecDepth 100000 in
theorem c_X9_types (l : Launch) (g : zG) (sz : Nat) (h0 : Nat) (bmt : Nat) (k : Nat) (mt : Nat → Int32) (u1 : Value) (u2 : Value) (u3 : Value) (u4 : Value) (u9 : Value) (u10 : Value) (u11 : Value) (u12 : Value) (u13 : Value) (u14 : Value) (u17 : Value) (u18 : Value) (u19 : Value) (u20 : Value) (u21 : Value) (u22 : Value) (u23 : Value) (u24 : Value) (u25 : Value) (u26 : Value) (u27 : Value) (u28 : Value) (u29 : Value) (u30 : Value) (u31 : Value) (u32 : Value) (u33 : Value) (u34 : Value) (u35 : Value) (u36 : Value) (u37 : Value) (u38 : Value) (u39 : Value) (u40 : Value) (u41 : Value) (u42 : Value) (u43 : Value) (u44 : Value) (u45 : Value) (u46 : Value) (x : Int32) (hk : k + 4 ≤ 200) : Met l yX9_types (zW yX9_types cX9_types 3 none) ({ frames := 0, cells := 0, slots := 0, locals := 0 }) (va_Pc [.ref h0, .int x] (zA g [(h0, .inr (9, [.int 0, u1, u2, u3, u4, .int 0, .int 0, .int 0, .int 0, u9, u10, u11, u12, u13, u14, .ref bmt, .int (nI k), u17, u18, u19, u20, u21, u22, u23, u24, u25, u26, u27, u28, u29, u30, u31, u32, u33, u34, u35, u36, u37, u38, u39, u40, u41, u42, u43, u44, u45, u46])), (bmt, .inl (g.2 2, 200, .inl mt))] sz)) (va_Qv (fun (_ : Unit) => True) (fun _ t => ∃ (z1 : Nat → Int32), zP g [(h0, .inr (9, [.int 0, u1, u2, u3, u4, .int 0, .int 0, .int 0, .int 0, u9, u10, u11, u12, u13, u14, .ref bmt, .int (nI (k + 4)), u17, u18, u19, u20, u21, u22, u23, u24, u25, u26, u27, u28, u29, u30, u31, u32, u33, u34, u35, u36, u37, u38, u39, u40, u41, u42, u43, u44, u45, u46])), (bmt, .inl (g.2 2, 200, .inl z1))] t.heap ∧ va_D (va_A [(h0, .inr (9, [.int 0, u1, u2, u3, u4, .int 0, .int 0, .int 0, .int 0, u9, u10, u11, u12, u13, u14, .ref bmt, .int (nI k), u17, u18, u19, u20, u21, u22, u23, u24, u25, u26, u27, u28, u29, u30, u31, u32, u33, u34, u35, u36, u37, u38, u39, u40, u41, u42, u43, u44, u45, u46])), (bmt, .inl (g.2 2, 200, .inl mt))] sz) [(h0, .inr (9, [.int 0, u1, u2, u3, u4, .int 0, .int 0, .int 0, .int 0, u9, u10, u11, u12, u13, u14, .ref bmt, .int (nI (k + 4)), u17, u18, u19, u20, u21, u22, u23, u24, u25, u26, u27, u28, u29, u30, u31, u32, u33, u34, u35, u36, u37, u38, u39, u40, u41, u42, u43, u44, u45, u46])), (bmt, .inl (g.2 2, 200, .inl z1))]) (va_A [(h0, .inr (9, [.int 0, u1, u2, u3, u4, .int 0, .int 0, .int 0, .int 0, u9, u10, u11, u12, u13, u14, .ref bmt, .int (nI k), u17, u18, u19, u20, u21, u22, u23, u24, u25, u26, u27, u28, u29, u30, u31, u32, u33, u34, u35, u36, u37, u38, u39, u40, u41, u42, u43, u44, u45, u46])), (bmt, .inl (g.2 2, 200, .inl mt))] sz)) 0 0 (va_A [(h0, .inr (9, [.int 0, u1, u2, u3, u4, .int 0, .int 0, .int 0, .int 0, u9, u10, u11, u12, u13, u14, .ref bmt, .int (nI k), u17, u18, u19, u20, u21, u22, u23, u24, u25, u26, u27, u28, u29, u30, u31, u32, u33, u34, u35, u36, u37, u38, u39, u40, u41, u42, u43, u44, u45, u46])), (bmt, .inl (g.2 2, 200, .inl mt))] sz) := by
  refine Met.ofW (cc := cX9_types) (maxL := 3) (ret := none) (by decide) rfl ?_
  intro p e s m args below meth c s₁ B hml hv
  obtain ⟨rfl, hsz, hP, hK, hD0, hN⟩ := hv
  have hx := B.exec
  have hb := B.bytes
  have hr := B.returns
  have hg := zW.law (atoms_spec (ws := (zW yX9_types cX9_types 3 none)) B.pre)
  have hown : s.vm.findClass RX9 = some m.cls := findClass_of_methodNamed B.named
  have hlocks := B.notSynchronized
  subst hsz
  have hD := hD0.self (sz := s.heap.size)
  generalize hAe : va_A [(h0, .inr (9, [.int 0, u1, u2, u3, u4, .int 0, .int 0, .int 0, .int 0, u9, u10, u11, u12, u13, u14, .ref bmt, .int (nI k), u17, u18, u19, u20, u21, u22, u23, u24, u25, u26, u27, u28, u29, u30, u31, u32, u33, u34, u35, u36, u37, u38, u39, u40, u41, u42, u43, u44, u45, u46])), (bmt, .inl (g.2 2, 200, .inl mt))] s.heap.size = A at hD ⊢
  have hA : ∀ q : Nat, s.heap.size ≤ q → A q := fun q h => by rw [← hAe]; exact Or.inr h
  have hS : va_S A s.heap s.heap [] := va_S.rf
  have hl := lv_entry ([.ref h0, .int x]) (n := 3) (Nat.le_of_ble_eq_true rfl)
  rw [lg_entry_eq]
  generalize (lg_sl ([.ref h0, .int x]) ++ List.replicate (3 - (lg_sl ([.ref h0, .int x])).length) Slot.unset).toArray = ls at hl ⊢
  have hl : lv_has ls 3 [(0, .ref h0), (1, .int x)] := hl
  refine lv_iconst (v := 3) hx hb dX9_types_0 (by decide) ?_
  refine lv_istore_n (lv' := [(2, .int 3), (0, .ref h0), (1, .int x)]) hx hb dX9_types_1 rfl hl (by decide) rfl (fun ls hl => ?_)
  refine lv_iload_n hx hb dX9_types_2 rfl (lv_at hl 0 rfl) ?_
  refine lv_if_lt (tgt := 38) hx hb dX9_types_3 (by decide) (fun c1 => ?_) (fun c1 => ?_)
  · skip
    exact absurd c1 (by decide)
  · skip
    refine lv_aload_n hx hb dX9_types_6 rfl (lv_at hl 1 rfl) ?_
    refine va_get (D := g.1) (ci := 9) (v := .ref bmt) (C := RX9) (T := TX9) (N := 47) hx hb hg inG9 hown hK hP 0 rfl rfl 15 (by decide) (hg _ mm_973) (fun _ h9 => h9) rfl dX9_types_7 ?_
    refine lv_aload_n hx hb dX9_types_10 rfl (lv_at hl 1 rfl) ?_
    refine va_get (D := g.1) (ci := 9) (v := .int (nI k)) (C := RX9) (T := TX9) (N := 47) hx hb hg inG9 hown hK hP 0 rfl rfl 16 (by decide) (hg _ mm_974) (fun _ h9 => h9) rfl dX9_types_11 ?_
    refine lv_iload_n hx hb dX9_types_14 rfl (lv_at hl 2 rfl) ?_
    refine lv_bipush (v := 8) hx hb dX9_types_15 (by decide) ?_
    refine lv_iload_n hx hb dX9_types_17 rfl (lv_at hl 0 rfl) ?_
    refine lv_imul hx hb dX9_types_18 ?_
    refine lv_topi (fun x2 ex2 => ?_)
    obtain rfl : x2 = 24 := ex2.trans (by decide)
    refine lv_ishr hx hb dX9_types_19 ?_
    refine lv_topi (fun x3 ex3 => ?_)
    refine lv_i2b hx hb dX9_types_20 rfl ?_
    refine lv_topi (fun x4 ex4 => ?_)
    refine va_bast hx hb hK hP hD hS 1 2 rfl rfl (z_in (nI_toInt (by omega)) (by omega) (by omega)) dX9_types_21 (fun H locs hP hD hS => ?_)
    rw [show ((nI k) : Int32).toNatClampNeg = k from (nI_clamp (by omega))] at hP hD
    have hP : zP g [(h0, .inr (9, [.int 0, u1, u2, u3, u4, .int 0, .int 0, .int 0, .int 0, u9, u10, u11, u12, u13, u14, .ref bmt, .int (nI k), u17, u18, u19, u20, u21, u22, u23, u24, u25, u26, u27, u28, u29, u30, u31, u32, u33, u34, u35, u36, u37, u38, u39, u40, u41, u42, u43, u44, u45, u46])), (bmt, .inl (g.2 2, 200, .inl (upd mt k (vp_nar .byte x4))))] H := hP
    have hD : va_D A [(h0, .inr (9, [.int 0, u1, u2, u3, u4, .int 0, .int 0, .int 0, .int 0, u9, u10, u11, u12, u13, u14, .ref bmt, .int (nI k), u17, u18, u19, u20, u21, u22, u23, u24, u25, u26, u27, u28, u29, u30, u31, u32, u33, u34, u35, u36, u37, u38, u39, u40, u41, u42, u43, u44, u45, u46])), (bmt, .inl (g.2 2, 200, .inl (upd mt k (vp_nar .byte x4))))] := hD
    refine lv_aload_n hx hb dX9_types_22 rfl (lv_at hl 1 rfl) ?_
    refine lv_aload_n hx hb dX9_types_23 rfl (lv_at hl 1 rfl) ?_
    refine va_get (D := g.1) (ci := 9) (v := .int (nI k)) (C := RX9) (T := TX9) (N := 47) hx hb hg inG9 hown hK hP 0 rfl rfl 16 (by decide) (hg _ mm_974) (fun _ h9 => h9) rfl dX9_types_24 ?_
    refine lv_iconst (v := 1) hx hb dX9_types_27 (by decide) ?_
    refine lv_iadd hx hb dX9_types_28 ?_
    refine lv_topi (fun x5 ex5 => ?_)
    obtain rfl : x5 = nI (k + 1) := ex5.trans (nI_1 k)
    refine va_put (D := g.1) (ci := 9) (v := .int (nI (k + 1))) (ty := .int) (C := RX9) (T := TX9) (N := 47) hx hb hg inG9 tyX9 tyX9_ok nmX9 hown hK hP hD hS 0 rfl rfl 16 (by decide) (hg _ mm_974) (fun _ h9 => h9) rfl (by decide +kernel) rfl rfl (Nat.le_of_ble_eq_true rfl) dX9_types_29 (fun H locs hP hD hS => ?_)
    have hP : zP g [(h0, .inr (9, [.int 0, u1, u2, u3, u4, .int 0, .int 0, .int 0, .int 0, u9, u10, u11, u12, u13, u14, .ref bmt, .int (nI (k + 1)), u17, u18, u19, u20, u21, u22, u23, u24, u25, u26, u27, u28, u29, u30, u31, u32, u33, u34, u35, u36, u37, u38, u39, u40, u41, u42, u43, u44, u45, u46])), (bmt, .inl (g.2 2, 200, .inl (upd mt k (vp_nar .byte x4))))] H := hP
    have hD : va_D A [(h0, .inr (9, [.int 0, u1, u2, u3, u4, .int 0, .int 0, .int 0, .int 0, u9, u10, u11, u12, u13, u14, .ref bmt, .int (nI (k + 1)), u17, u18, u19, u20, u21, u22, u23, u24, u25, u26, u27, u28, u29, u30, u31, u32, u33, u34, u35, u36, u37, u38, u39, u40, u41, u42, u43, u44, u45, u46])), (bmt, .inl (g.2 2, 200, .inl (upd mt k (vp_nar .byte x4))))] := hD
    refine lv_iinc (v := 2) (lv' := [(2, .int 2), (0, .ref h0), (1, .int x)]) hx hb dX9_types_32 hl (k := 0) rfl (by decide) (by decide) rfl (fun ls hl => ?_)
    refine lv_goto (tgt := 2) hx hb dX9_types_35 (by decide) ?_
    refine lv_iload_n hx hb dX9_types_2 rfl (lv_at hl 0 rfl) ?_
    refine lv_if_lt (tgt := 38) hx hb dX9_types_3 (by decide) (fun c6 => ?_) (fun c6 => ?_)
    · skip
      exact absurd c6 (by decide)
    · skip
      refine lv_aload_n hx hb dX9_types_6 rfl (lv_at hl 1 rfl) ?_
      refine va_get (D := g.1) (ci := 9) (v := .ref bmt) (C := RX9) (T := TX9) (N := 47) hx hb hg inG9 hown hK hP 0 rfl rfl 15 (by decide) (hg _ mm_973) (fun _ h9 => h9) rfl dX9_types_7 ?_
      refine lv_aload_n hx hb dX9_types_10 rfl (lv_at hl 1 rfl) ?_
      refine va_get (D := g.1) (ci := 9) (v := .int (nI (k + 1))) (C := RX9) (T := TX9) (N := 47) hx hb hg inG9 hown hK hP 0 rfl rfl 16 (by decide) (hg _ mm_974) (fun _ h9 => h9) rfl dX9_types_11 ?_
      refine lv_iload_n hx hb dX9_types_14 rfl (lv_at hl 2 rfl) ?_
      refine lv_bipush (v := 8) hx hb dX9_types_15 (by decide) ?_
      refine lv_iload_n hx hb dX9_types_17 rfl (lv_at hl 0 rfl) ?_
      refine lv_imul hx hb dX9_types_18 ?_
      refine lv_topi (fun x7 ex7 => ?_)
      obtain rfl : x7 = 16 := ex7.trans (by decide)
      refine lv_ishr hx hb dX9_types_19 ?_
      refine lv_topi (fun x8 ex8 => ?_)
      refine lv_i2b hx hb dX9_types_20 rfl ?_
      refine lv_topi (fun x9 ex9 => ?_)
      refine va_bast hx hb hK hP hD hS 1 2 rfl rfl (z_in (nI_toInt (by omega)) (by omega) (by omega)) dX9_types_21 (fun H locs hP hD hS => ?_)
      rw [show ((nI (k + 1)) : Int32).toNatClampNeg = (k + 1) from (nI_clamp (by omega))] at hP hD
      have hP : zP g [(h0, .inr (9, [.int 0, u1, u2, u3, u4, .int 0, .int 0, .int 0, .int 0, u9, u10, u11, u12, u13, u14, .ref bmt, .int (nI (k + 1)), u17, u18, u19, u20, u21, u22, u23, u24, u25, u26, u27, u28, u29, u30, u31, u32, u33, u34, u35, u36, u37, u38, u39, u40, u41, u42, u43, u44, u45, u46])), (bmt, .inl (g.2 2, 200, .inl (upd (upd mt k (vp_nar .byte x4)) (k + 1) (vp_nar .byte x9))))] H := hP
      have hD : va_D A [(h0, .inr (9, [.int 0, u1, u2, u3, u4, .int 0, .int 0, .int 0, .int 0, u9, u10, u11, u12, u13, u14, .ref bmt, .int (nI (k + 1)), u17, u18, u19, u20, u21, u22, u23, u24, u25, u26, u27, u28, u29, u30, u31, u32, u33, u34, u35, u36, u37, u38, u39, u40, u41, u42, u43, u44, u45, u46])), (bmt, .inl (g.2 2, 200, .inl (upd (upd mt k (vp_nar .byte x4)) (k + 1) (vp_nar .byte x9))))] := hD
      refine lv_aload_n hx hb dX9_types_22 rfl (lv_at hl 1 rfl) ?_
      refine lv_aload_n hx hb dX9_types_23 rfl (lv_at hl 1 rfl) ?_
      refine va_get (D := g.1) (ci := 9) (v := .int (nI (k + 1))) (C := RX9) (T := TX9) (N := 47) hx hb hg inG9 hown hK hP 0 rfl rfl 16 (by decide) (hg _ mm_974) (fun _ h9 => h9) rfl dX9_types_24 ?_
      refine lv_iconst (v := 1) hx hb dX9_types_27 (by decide) ?_
      refine lv_iadd hx hb dX9_types_28 ?_
      refine lv_topi (fun x10 ex10 => ?_)
      obtain rfl : x10 = nI (k + 1 + 1) := ex10.trans (nI_1 (k + 1))
      refine va_put (D := g.1) (ci := 9) (v := .int (nI (k + 1 + 1))) (ty := .int) (C := RX9) (T := TX9) (N := 47) hx hb hg inG9 tyX9 tyX9_ok nmX9 hown hK hP hD hS 0 rfl rfl 16 (by decide) (hg _ mm_974) (fun _ h9 => h9) rfl (by decide +kernel) rfl rfl (Nat.le_of_ble_eq_true rfl) dX9_types_29 (fun H locs hP hD hS => ?_)
      have hP : zP g [(h0, .inr (9, [.int 0, u1, u2, u3, u4, .int 0, .int 0, .int 0, .int 0, u9, u10, u11, u12, u13, u14, .ref bmt, .int (nI (k + 1 + 1)), u17, u18, u19, u20, u21, u22, u23, u24, u25, u26, u27, u28, u29, u30, u31, u32, u33, u34, u35, u36, u37, u38, u39, u40, u41, u42, u43, u44, u45, u46])), (bmt, .inl (g.2 2, 200, .inl (upd (upd mt k (vp_nar .byte x4)) (k + 1) (vp_nar .byte x9))))] H := hP
      have hD : va_D A [(h0, .inr (9, [.int 0, u1, u2, u3, u4, .int 0, .int 0, .int 0, .int 0, u9, u10, u11, u12, u13, u14, .ref bmt, .int (nI (k + 1 + 1)), u17, u18, u19, u20, u21, u22, u23, u24, u25, u26, u27, u28, u29, u30, u31, u32, u33, u34, u35, u36, u37, u38, u39, u40, u41, u42, u43, u44, u45, u46])), (bmt, .inl (g.2 2, 200, .inl (upd (upd mt k (vp_nar .byte x4)) (k + 1) (vp_nar .byte x9))))] := hD
      refine lv_iinc (v := 1) (lv' := [(2, .int 1), (0, .ref h0), (1, .int x)]) hx hb dX9_types_32 hl (k := 0) rfl (by decide) (by decide) rfl (fun ls hl => ?_)
      refine lv_goto (tgt := 2) hx hb dX9_types_35 (by decide) ?_
      refine lv_iload_n hx hb dX9_types_2 rfl (lv_at hl 0 rfl) ?_
      refine lv_if_lt (tgt := 38) hx hb dX9_types_3 (by decide) (fun c11 => ?_) (fun c11 => ?_)
      · skip
        exact absurd c11 (by decide)
      · skip
        refine lv_aload_n hx hb dX9_types_6 rfl (lv_at hl 1 rfl) ?_
        refine va_get (D := g.1) (ci := 9) (v := .ref bmt) (C := RX9) (T := TX9) (N := 47) hx hb hg inG9 hown hK hP 0 rfl rfl 15 (by decide) (hg _ mm_973) (fun _ h9 => h9) rfl dX9_types_7 ?_
        refine lv_aload_n hx hb dX9_types_10 rfl (lv_at hl 1 rfl) ?_
        refine va_get (D := g.1) (ci := 9) (v := .int (nI (k + 1 + 1))) (C := RX9) (T := TX9) (N := 47) hx hb hg inG9 hown hK hP 0 rfl rfl 16 (by decide) (hg _ mm_974) (fun _ h9 => h9) rfl dX9_types_11 ?_
        refine lv_iload_n hx hb dX9_types_14 rfl (lv_at hl 2 rfl) ?_
        refine lv_bipush (v := 8) hx hb dX9_types_15 (by decide) ?_
        refine lv_iload_n hx hb dX9_types_17 rfl (lv_at hl 0 rfl) ?_
        refine lv_imul hx hb dX9_types_18 ?_
        refine lv_topi (fun x12 ex12 => ?_)
        obtain rfl : x12 = 8 := ex12.trans (by decide)
        refine lv_ishr hx hb dX9_types_19 ?_
        refine lv_topi (fun x13 ex13 => ?_)
        refine lv_i2b hx hb dX9_types_20 rfl ?_
        refine lv_topi (fun x14 ex14 => ?_)
        refine va_bast hx hb hK hP hD hS 1 2 rfl rfl (z_in (nI_toInt (by omega)) (by omega) (by omega)) dX9_types_21 (fun H locs hP hD hS => ?_)
        rw [show ((nI (k + 1 + 1)) : Int32).toNatClampNeg = (k + 1 + 1) from (nI_clamp (by omega))] at hP hD
        have hP : zP g [(h0, .inr (9, [.int 0, u1, u2, u3, u4, .int 0, .int 0, .int 0, .int 0, u9, u10, u11, u12, u13, u14, .ref bmt, .int (nI (k + 1 + 1)), u17, u18, u19, u20, u21, u22, u23, u24, u25, u26, u27, u28, u29, u30, u31, u32, u33, u34, u35, u36, u37, u38, u39, u40, u41, u42, u43, u44, u45, u46])), (bmt, .inl (g.2 2, 200, .inl (upd (upd (upd mt k (vp_nar .byte x4)) (k + 1) (vp_nar .byte x9)) (k + 1 + 1) (vp_nar .byte x14))))] H := hP
        have hD : va_D A [(h0, .inr (9, [.int 0, u1, u2, u3, u4, .int 0, .int 0, .int 0, .int 0, u9, u10, u11, u12, u13, u14, .ref bmt, .int (nI (k + 1 + 1)), u17, u18, u19, u20, u21, u22, u23, u24, u25, u26, u27, u28, u29, u30, u31, u32, u33, u34, u35, u36, u37, u38, u39, u40, u41, u42, u43, u44, u45, u46])), (bmt, .inl (g.2 2, 200, .inl (upd (upd (upd mt k (vp_nar .byte x4)) (k + 1) (vp_nar .byte x9)) (k + 1 + 1) (vp_nar .byte x14))))] := hD
        refine lv_aload_n hx hb dX9_types_22 rfl (lv_at hl 1 rfl) ?_
        refine lv_aload_n hx hb dX9_types_23 rfl (lv_at hl 1 rfl) ?_
        refine va_get (D := g.1) (ci := 9) (v := .int (nI (k + 1 + 1))) (C := RX9) (T := TX9) (N := 47) hx hb hg inG9 hown hK hP 0 rfl rfl 16 (by decide) (hg _ mm_974) (fun _ h9 => h9) rfl dX9_types_24 ?_
        refine lv_iconst (v := 1) hx hb dX9_types_27 (by decide) ?_
        refine lv_iadd hx hb dX9_types_28 ?_
        refine lv_topi (fun x15 ex15 => ?_)
        obtain rfl : x15 = nI (k + 1 + 1 + 1) := ex15.trans (nI_1 (k + 1 + 1))
        refine va_put (D := g.1) (ci := 9) (v := .int (nI (k + 1 + 1 + 1))) (ty := .int) (C := RX9) (T := TX9) (N := 47) hx hb hg inG9 tyX9 tyX9_ok nmX9 hown hK hP hD hS 0 rfl rfl 16 (by decide) (hg _ mm_974) (fun _ h9 => h9) rfl (by decide +kernel) rfl rfl (Nat.le_of_ble_eq_true rfl) dX9_types_29 (fun H locs hP hD hS => ?_)
        have hP : zP g [(h0, .inr (9, [.int 0, u1, u2, u3, u4, .int 0, .int 0, .int 0, .int 0, u9, u10, u11, u12, u13, u14, .ref bmt, .int (nI (k + 1 + 1 + 1)), u17, u18, u19, u20, u21, u22, u23, u24, u25, u26, u27, u28, u29, u30, u31, u32, u33, u34, u35, u36, u37, u38, u39, u40, u41, u42, u43, u44, u45, u46])), (bmt, .inl (g.2 2, 200, .inl (upd (upd (upd mt k (vp_nar .byte x4)) (k + 1) (vp_nar .byte x9)) (k + 1 + 1) (vp_nar .byte x14))))] H := hP
        have hD : va_D A [(h0, .inr (9, [.int 0, u1, u2, u3, u4, .int 0, .int 0, .int 0, .int 0, u9, u10, u11, u12, u13, u14, .ref bmt, .int (nI (k + 1 + 1 + 1)), u17, u18, u19, u20, u21, u22, u23, u24, u25, u26, u27, u28, u29, u30, u31, u32, u33, u34, u35, u36, u37, u38, u39, u40, u41, u42, u43, u44, u45, u46])), (bmt, .inl (g.2 2, 200, .inl (upd (upd (upd mt k (vp_nar .byte x4)) (k + 1) (vp_nar .byte x9)) (k + 1 + 1) (vp_nar .byte x14))))] := hD
        refine lv_iinc (v := 0) (lv' := [(2, .int 0), (0, .ref h0), (1, .int x)]) hx hb dX9_types_32 hl (k := 0) rfl (by decide) (by decide) rfl (fun ls hl => ?_)
        refine lv_goto (tgt := 2) hx hb dX9_types_35 (by decide) ?_
        refine lv_iload_n hx hb dX9_types_2 rfl (lv_at hl 0 rfl) ?_
        refine lv_if_lt (tgt := 38) hx hb dX9_types_3 (by decide) (fun c16 => ?_) (fun c16 => ?_)
        · skip
          exact absurd c16 (by decide)
        · skip
          refine lv_aload_n hx hb dX9_types_6 rfl (lv_at hl 1 rfl) ?_
          refine va_get (D := g.1) (ci := 9) (v := .ref bmt) (C := RX9) (T := TX9) (N := 47) hx hb hg inG9 hown hK hP 0 rfl rfl 15 (by decide) (hg _ mm_973) (fun _ h9 => h9) rfl dX9_types_7 ?_
          refine lv_aload_n hx hb dX9_types_10 rfl (lv_at hl 1 rfl) ?_
          refine va_get (D := g.1) (ci := 9) (v := .int (nI (k + 1 + 1 + 1))) (C := RX9) (T := TX9) (N := 47) hx hb hg inG9 hown hK hP 0 rfl rfl 16 (by decide) (hg _ mm_974) (fun _ h9 => h9) rfl dX9_types_11 ?_
          refine lv_iload_n hx hb dX9_types_14 rfl (lv_at hl 2 rfl) ?_
          refine lv_bipush (v := 8) hx hb dX9_types_15 (by decide) ?_
          refine lv_iload_n hx hb dX9_types_17 rfl (lv_at hl 0 rfl) ?_
          refine lv_imul hx hb dX9_types_18 ?_
          refine lv_topi (fun x17 ex17 => ?_)
          obtain rfl : x17 = 0 := ex17.trans (by decide)
          refine lv_ishr hx hb dX9_types_19 ?_
          refine lv_topi (fun x18 ex18 => ?_)
          refine lv_i2b hx hb dX9_types_20 rfl ?_
          refine lv_topi (fun x19 ex19 => ?_)
          refine va_bast hx hb hK hP hD hS 1 2 rfl rfl (z_in (nI_toInt (by omega)) (by omega) (by omega)) dX9_types_21 (fun H locs hP hD hS => ?_)
          rw [show ((nI (k + 1 + 1 + 1)) : Int32).toNatClampNeg = (k + 1 + 1 + 1) from (nI_clamp (by omega))] at hP hD
          have hP : zP g [(h0, .inr (9, [.int 0, u1, u2, u3, u4, .int 0, .int 0, .int 0, .int 0, u9, u10, u11, u12, u13, u14, .ref bmt, .int (nI (k + 1 + 1 + 1)), u17, u18, u19, u20, u21, u22, u23, u24, u25, u26, u27, u28, u29, u30, u31, u32, u33, u34, u35, u36, u37, u38, u39, u40, u41, u42, u43, u44, u45, u46])), (bmt, .inl (g.2 2, 200, .inl (upd (upd (upd (upd mt k (vp_nar .byte x4)) (k + 1) (vp_nar .byte x9)) (k + 1 + 1) (vp_nar .byte x14)) (k + 1 + 1 + 1) (vp_nar .byte x19))))] H := hP
          have hD : va_D A [(h0, .inr (9, [.int 0, u1, u2, u3, u4, .int 0, .int 0, .int 0, .int 0, u9, u10, u11, u12, u13, u14, .ref bmt, .int (nI (k + 1 + 1 + 1)), u17, u18, u19, u20, u21, u22, u23, u24, u25, u26, u27, u28, u29, u30, u31, u32, u33, u34, u35, u36, u37, u38, u39, u40, u41, u42, u43, u44, u45, u46])), (bmt, .inl (g.2 2, 200, .inl (upd (upd (upd (upd mt k (vp_nar .byte x4)) (k + 1) (vp_nar .byte x9)) (k + 1 + 1) (vp_nar .byte x14)) (k + 1 + 1 + 1) (vp_nar .byte x19))))] := hD
          refine lv_aload_n hx hb dX9_types_22 rfl (lv_at hl 1 rfl) ?_
          refine lv_aload_n hx hb dX9_types_23 rfl (lv_at hl 1 rfl) ?_
          refine va_get (D := g.1) (ci := 9) (v := .int (nI (k + 1 + 1 + 1))) (C := RX9) (T := TX9) (N := 47) hx hb hg inG9 hown hK hP 0 rfl rfl 16 (by decide) (hg _ mm_974) (fun _ h9 => h9) rfl dX9_types_24 ?_
          refine lv_iconst (v := 1) hx hb dX9_types_27 (by decide) ?_
          refine lv_iadd hx hb dX9_types_28 ?_
          refine lv_topi (fun x20 ex20 => ?_)
          obtain rfl : x20 = nI (k + 1 + 1 + 1 + 1) := ex20.trans (nI_1 (k + 1 + 1 + 1))
          refine va_put (D := g.1) (ci := 9) (v := .int (nI (k + 1 + 1 + 1 + 1))) (ty := .int) (C := RX9) (T := TX9) (N := 47) hx hb hg inG9 tyX9 tyX9_ok nmX9 hown hK hP hD hS 0 rfl rfl 16 (by decide) (hg _ mm_974) (fun _ h9 => h9) rfl (by decide +kernel) rfl rfl (Nat.le_of_ble_eq_true rfl) dX9_types_29 (fun H locs hP hD hS => ?_)
          have hP : zP g [(h0, .inr (9, [.int 0, u1, u2, u3, u4, .int 0, .int 0, .int 0, .int 0, u9, u10, u11, u12, u13, u14, .ref bmt, .int (nI (k + 1 + 1 + 1 + 1)), u17, u18, u19, u20, u21, u22, u23, u24, u25, u26, u27, u28, u29, u30, u31, u32, u33, u34, u35, u36, u37, u38, u39, u40, u41, u42, u43, u44, u45, u46])), (bmt, .inl (g.2 2, 200, .inl (upd (upd (upd (upd mt k (vp_nar .byte x4)) (k + 1) (vp_nar .byte x9)) (k + 1 + 1) (vp_nar .byte x14)) (k + 1 + 1 + 1) (vp_nar .byte x19))))] H := hP
          have hD : va_D A [(h0, .inr (9, [.int 0, u1, u2, u3, u4, .int 0, .int 0, .int 0, .int 0, u9, u10, u11, u12, u13, u14, .ref bmt, .int (nI (k + 1 + 1 + 1 + 1)), u17, u18, u19, u20, u21, u22, u23, u24, u25, u26, u27, u28, u29, u30, u31, u32, u33, u34, u35, u36, u37, u38, u39, u40, u41, u42, u43, u44, u45, u46])), (bmt, .inl (g.2 2, 200, .inl (upd (upd (upd (upd mt k (vp_nar .byte x4)) (k + 1) (vp_nar .byte x9)) (k + 1 + 1) (vp_nar .byte x14)) (k + 1 + 1 + 1) (vp_nar .byte x19))))] := hD
          refine lv_iinc (v := (-1)) (lv' := [(2, .int (-1)), (0, .ref h0), (1, .int x)]) hx hb dX9_types_32 hl (k := 0) rfl (by decide) (by decide) rfl (fun ls hl => ?_)
          refine lv_goto (tgt := 2) hx hb dX9_types_35 (by decide) ?_
          refine lv_iload_n hx hb dX9_types_2 rfl (lv_at hl 0 rfl) ?_
          refine lv_if_lt (tgt := 38) hx hb dX9_types_3 (by decide) (fun c21 => ?_) (fun c21 => ?_)
          · skip
            have hP9 := hP.sub (ws' := [(h0, .inr (9, [.int 0, u1, u2, u3, u4, .int 0, .int 0, .int 0, .int 0, u9, u10, u11, u12, u13, u14, .ref bmt, .int (nI (k + 4)), u17, u18, u19, u20, u21, u22, u23, u24, u25, u26, u27, u28, u29, u30, u31, u32, u33, u34, u35, u36, u37, u38, u39, u40, u41, u42, u43, u44, u45, u46])), (bmt, .inl (g.2 2, 200, .inl (upd (upd (upd (upd mt k (vp_nar .byte x4)) (k + 1) (vp_nar .byte x9)) (k + 1 + 1) (vp_nar .byte x14)) (k + 1 + 1 + 1) (vp_nar .byte x19))))]) [0, 1] rfl
            have hD9 := hD.sub (ws' := [(h0, .inr (9, [.int 0, u1, u2, u3, u4, .int 0, .int 0, .int 0, .int 0, u9, u10, u11, u12, u13, u14, .ref bmt, .int (nI (k + 4)), u17, u18, u19, u20, u21, u22, u23, u24, u25, u26, u27, u28, u29, u30, u31, u32, u33, u34, u35, u36, u37, u38, u39, u40, u41, u42, u43, u44, u45, u46])), (bmt, .inl (g.2 2, 200, .inl (upd (upd (upd (upd mt k (vp_nar .byte x4)) (k + 1) (vp_nar .byte x9)) (k + 1 + 1) (vp_nar .byte x14)) (k + 1 + 1 + 1) (vp_nar .byte x19))))]) [0, 1] (by decide) rfl
            refine W.widen (k := 0) (n := 0) (Nat.le_of_ble_eq_true rfl) (Nat.le_of_ble_eq_true rfl) ?_
            exact W.vret hx hb hr (fun t ht hW => ⟨⟨(), rfl, trivial, ⟨(upd (upd (upd (upd mt k (vp_nar .byte x4)) (k + 1) (vp_nar .byte x9)) (k + 1 + 1) (vp_nar .byte x14)) (k + 1 + 1 + 1) (vp_nar .byte x19)), by rw [ht]; exact hP9, hD9⟩⟩, hS.F ht⟩) hS.2.2 dX9_types_38
          · skip
            exact absurd c21 (by decide)

set_option maxHeartbeats 4000000 in
set_option maxRecDepth 100000 in
theorem c_X9_feed (l : Launch) (g : zG) (sz : Nat) (h0 : Nat) (u1 : Value) (u2 : Value) (u3 : Value) (u4 : Value) (u9 : Value) (u10 : Value) (u11 : Value) (u12 : Value) (u13 : Value) (u14 : Value) (bmt : Nat) (mt : Nat → Int32) (u17 : Value) (u18 : Value) (u19 : Value) (u20 : Value) (u21 : Value) (u22 : Value) (u23 : Value) (u24 : Value) (u25 : Value) (u26 : Value) (u27 : Value) (u28 : Value) (u29 : Value) (u30 : Value) (u31 : Value) (u32 : Value) (u33 : Value) (u34 : Value) (u35 : Value) (u36 : Value) (u37 : Value) (u38 : Value) (u39 : Value) (u40 : Value) (u41 : Value) (u42 : Value) (u43 : Value) (u44 : Value) (u45 : Value) (u46 : Value) (a : Int32) (b : Int32) (c0 : Int32) (d0 : Int32) (e0 : Int32) : Met l yX9_feed (zW yX9_feed cX9_feed 6 (some .int)) ({ frames := 1, cells := 0, slots := 0, locals := 22 }) (va_Pc [.ref h0, .int a, .int b, .int c0, .int d0, .int e0] (zA g [(h0, .inr (9, [.int 0, u1, u2, u3, u4, .int 0, .int 0, .int 0, .int 0, u9, u10, u11, u12, u13, u14, .ref bmt, .int 0, u17, u18, u19, u20, u21, u22, u23, u24, u25, u26, u27, u28, u29, u30, u31, u32, u33, u34, u35, u36, u37, u38, u39, u40, u41, u42, u43, u44, u45, u46])), (bmt, .inl (g.2 2, 200, .inl mt))] sz)) (va_Qi (fun (r : Int32) (_ : Unit) => (r = 20)) (fun _ t => zP g [] t.heap ∧ va_D (va_A [(h0, .inr (9, [.int 0, u1, u2, u3, u4, .int 0, .int 0, .int 0, .int 0, u9, u10, u11, u12, u13, u14, .ref bmt, .int 0, u17, u18, u19, u20, u21, u22, u23, u24, u25, u26, u27, u28, u29, u30, u31, u32, u33, u34, u35, u36, u37, u38, u39, u40, u41, u42, u43, u44, u45, u46])), (bmt, .inl (g.2 2, 200, .inl mt))] sz) []) (va_A [(h0, .inr (9, [.int 0, u1, u2, u3, u4, .int 0, .int 0, .int 0, .int 0, u9, u10, u11, u12, u13, u14, .ref bmt, .int 0, u17, u18, u19, u20, u21, u22, u23, u24, u25, u26, u27, u28, u29, u30, u31, u32, u33, u34, u35, u36, u37, u38, u39, u40, u41, u42, u43, u44, u45, u46])), (bmt, .inl (g.2 2, 200, .inl mt))] sz)) 0 0 (va_A [(h0, .inr (9, [.int 0, u1, u2, u3, u4, .int 0, .int 0, .int 0, .int 0, u9, u10, u11, u12, u13, u14, .ref bmt, .int 0, u17, u18, u19, u20, u21, u22, u23, u24, u25, u26, u27, u28, u29, u30, u31, u32, u33, u34, u35, u36, u37, u38, u39, u40, u41, u42, u43, u44, u45, u46])), (bmt, .inl (g.2 2, 200, .inl mt))] sz) := by
  refine Met.ofW (cc := cX9_feed) (maxL := 6) (ret := (some .int)) (by decide) rfl ?_
  intro p e s m args below meth c s₁ B hml hv
  obtain ⟨rfl, hsz, hP, hK, hD0, hN⟩ := hv
  have hx := B.exec
  have hb := B.bytes
  have hr := B.returns
  have hg := zW.law (atoms_spec (ws := (zW yX9_feed cX9_feed 6 (some .int))) B.pre)
  have hown : s.vm.findClass RX9 = some m.cls := findClass_of_methodNamed B.named
  have hlocks := B.notSynchronized
  subst hsz
  have hD := hD0.self (sz := s.heap.size)
  generalize hAe : va_A [(h0, .inr (9, [.int 0, u1, u2, u3, u4, .int 0, .int 0, .int 0, .int 0, u9, u10, u11, u12, u13, u14, .ref bmt, .int 0, u17, u18, u19, u20, u21, u22, u23, u24, u25, u26, u27, u28, u29, u30, u31, u32, u33, u34, u35, u36, u37, u38, u39, u40, u41, u42, u43, u44, u45, u46])), (bmt, .inl (g.2 2, 200, .inl mt))] s.heap.size = A at hD ⊢
  have hA : ∀ q : Nat, s.heap.size ≤ q → A q := fun q h => by rw [← hAe]; exact Or.inr h
  have hS : va_S A s.heap s.heap [] := va_S.rf
  have hl := lv_entry ([.ref h0, .int a, .int b, .int c0, .int d0, .int e0]) (n := 6) (Nat.le_of_ble_eq_true rfl)
  rw [lg_entry_eq]
  generalize (lg_sl ([.ref h0, .int a, .int b, .int c0, .int d0, .int e0]) ++ List.replicate (6 - (lg_sl ([.ref h0, .int a, .int b, .int c0, .int d0, .int e0])).length) Slot.unset).toArray = ls at hl ⊢
  have hl : lv_has ls 6 [(0, .ref h0), (1, .int a), (2, .int b), (3, .int c0), (4, .int d0), (5, .int e0)] := hl
  refine lv_aload_n hx hb dX9_feed_0 rfl (lv_at hl 0 rfl) ?_
  refine va_get (D := g.1) (ci := 9) (v := .int 0) (C := RX9) (T := TX9) (N := 47) hx hb hg inG9 hown hK hP 0 rfl rfl 16 (by decide) (hg _ mm_974) (fun _ h9 => h9) rfl dX9_feed_1 ?_
  refine lv_bipush (v := 20) hx hb dX9_feed_4 (by decide) ?_
  refine lv_iadd hx hb dX9_feed_6 ?_
  refine lv_topi (fun x1 ex1 => ?_)
  obtain rfl : x1 = 20 := ex1.trans (by decide)
  refine lv_sipush (v := 200) hx hb dX9_feed_7 (by decide) ?_
  refine lv_icmp_le (tgt := 15) hx hb dX9_feed_10 (by decide) (fun c2 => ?_) (fun c2 => ?_)
  · skip
    refine lv_aload_n hx hb dX9_feed_15 rfl (lv_at hl 0 rfl) ?_
    refine lv_iload_n hx hb dX9_feed_16 rfl (lv_at hl 1 rfl) ?_
    have hPc := hP.sub (ws' := [(h0, .inr (9, [.int 0, u1, u2, u3, u4, .int 0, .int 0, .int 0, .int 0, u9, u10, u11, u12, u13, u14, .ref bmt, .int 0, u17, u18, u19, u20, u21, u22, u23, u24, u25, u26, u27, u28, u29, u30, u31, u32, u33, u34, u35, u36, u37, u38, u39, u40, u41, u42, u43, u44, u45, u46])), (bmt, .inl (g.2 2, 200, .inl mt))]) [0, 1] rfl
    have hDc := hD.sub (ws' := [(h0, .inr (9, [.int 0, u1, u2, u3, u4, .int 0, .int 0, .int 0, .int 0, u9, u10, u11, u12, u13, u14, .ref bmt, .int 0, u17, u18, u19, u20, u21, u22, u23, u24, u25, u26, u27, u28, u29, u30, u31, u32, u33, u34, u35, u36, u37, u38, u39, u40, u41, u42, u43, u44, u45, u46])), (bmt, .inl (g.2 2, 200, .inl mt))]) [0, 1] (by decide) rfl
    have hFc := va_free (wc := [(h0, .inr (9, [.int 0, u1, u2, u3, u4, .int 0, .int 0, .int 0, .int 0, u9, u10, u11, u12, u13, u14, .ref bmt, .int 0, u17, u18, u19, u20, u21, u22, u23, u24, u25, u26, u27, u28, u29, u30, u31, u32, u33, u34, u35, u36, u37, u38, u39, u40, u41, u42, u43, u44, u45, u46])), (bmt, .inl (g.2 2, 200, .inl mt))]) hD hS hA [0, 1] rfl
    refine va_callv (va_runV (As := [.int a]) (rest := []) ⟨hx, hb, hml, hown, hg⟩ (c_X9_types l g _ h0 bmt 0 mt (u1 : Value) (u2 : Value) (u3 : Value) (u4 : Value) (u9 : Value) (u10 : Value) (u11 : Value) (u12 : Value) (u13 : Value) (u14 : Value) (u17 : Value) (u18 : Value) (u19 : Value) (u20 : Value) (u21 : Value) (u22 : Value) (u23 : Value) (u24 : Value) (u25 : Value) (u26 : Value) (u27 : Value) (u28 : Value) (u29 : Value) (u30 : Value) (u31 : Value) (u32 : Value) (u33 : Value) (u34 : Value) (u35 : Value) (u36 : Value) (u37 : Value) (u38 : Value) (u39 : Value) (u40 : Value) (u41 : Value) (u42 : Value) (u43 : Value) (u44 : Value) (u45 : Value) (u46 : Value) a (by first | omega | assumption | decide | (rw [nI_toInt] <;> omega))) (cwV 1 hg (z_gV mm_1202 mm_1204 mm_61 mm_117 mm_1205) rfl rfl rfl (by decide +kernel) ⟨Nat.le_of_ble_eq_true rfl, Nat.le_of_ble_eq_true rfl⟩) ⟨(zA.pre [.ref h0, .int a] hPc hK hDc hN).1, va_recv hK hPc (ci := 9) (q0 := 0) rfl rfl, (zA.pre [.ref h0, .int a] hPc hK hDc hN).2⟩ rfl rfl hl.1 rfl (lv_room (Nat.le_of_ble_eq_true rfl)) dX9_feed_17 ⟨Nat.le_of_ble_eq_true rfl, Nat.le_of_ble_eq_true rfl⟩) hS (fun q _ h => hFc q h) hFc (fun _ t H1 locs ht hvm hr3 hB hz1 hk1 hS => ?_)
    obtain ⟨z4, hP1, hD1⟩ := hB
    rw [ht] at hP1
    obtain ⟨hP, hD⟩ := va_join (wr := []) (w1 := [(h0, .inr (9, [.int 0, (u1 : Value), (u2 : Value), (u3 : Value), (u4 : Value), .int 0, .int 0, .int 0, .int 0, (u9 : Value), (u10 : Value), (u11 : Value), (u12 : Value), (u13 : Value), (u14 : Value), .ref bmt, .int (nI (0 + 4)), (u17 : Value), (u18 : Value), (u19 : Value), (u20 : Value), (u21 : Value), (u22 : Value), (u23 : Value), (u24 : Value), (u25 : Value), (u26 : Value), (u27 : Value), (u28 : Value), (u29 : Value), (u30 : Value), (u31 : Value), (u32 : Value), (u33 : Value), (u34 : Value), (u35 : Value), (u36 : Value), (u37 : Value), (u38 : Value), (u39 : Value), (u40 : Value), (u41 : Value), (u42 : Value), (u43 : Value), (u44 : Value), (u45 : Value), (u46 : Value)])), (bmt, .inl (g.2 2, 200, .inl z4))]) hP hD [0, 1] [] rfl rfl (by decide) (by decide) hk1 hFc hP1 hD1
    generalize H1 = H at hP hS ⊢
    refine W.widen (k := 0) (n := 0) (Nat.le_of_ble_eq_true rfl) (Nat.le_of_ble_eq_true rfl) ?_
    have hP : zP g [(h0, .inr (9, [.int 0, (u1 : Value), (u2 : Value), (u3 : Value), (u4 : Value), .int 0, .int 0, .int 0, .int 0, (u9 : Value), (u10 : Value), (u11 : Value), (u12 : Value), (u13 : Value), (u14 : Value), .ref bmt, .int (nI (0 + 4)), (u17 : Value), (u18 : Value), (u19 : Value), (u20 : Value), (u21 : Value), (u22 : Value), (u23 : Value), (u24 : Value), (u25 : Value), (u26 : Value), (u27 : Value), (u28 : Value), (u29 : Value), (u30 : Value), (u31 : Value), (u32 : Value), (u33 : Value), (u34 : Value), (u35 : Value), (u36 : Value), (u37 : Value), (u38 : Value), (u39 : Value), (u40 : Value), (u41 : Value), (u42 : Value), (u43 : Value), (u44 : Value), (u45 : Value), (u46 : Value)])), (bmt, .inl (g.2 2, 200, .inl z4))] H := hP
    have hD : va_D A [(h0, .inr (9, [.int 0, (u1 : Value), (u2 : Value), (u3 : Value), (u4 : Value), .int 0, .int 0, .int 0, .int 0, (u9 : Value), (u10 : Value), (u11 : Value), (u12 : Value), (u13 : Value), (u14 : Value), .ref bmt, .int (nI (0 + 4)), (u17 : Value), (u18 : Value), (u19 : Value), (u20 : Value), (u21 : Value), (u22 : Value), (u23 : Value), (u24 : Value), (u25 : Value), (u26 : Value), (u27 : Value), (u28 : Value), (u29 : Value), (u30 : Value), (u31 : Value), (u32 : Value), (u33 : Value), (u34 : Value), (u35 : Value), (u36 : Value), (u37 : Value), (u38 : Value), (u39 : Value), (u40 : Value), (u41 : Value), (u42 : Value), (u43 : Value), (u44 : Value), (u45 : Value), (u46 : Value)])), (bmt, .inl (g.2 2, 200, .inl z4))] := hD
    refine lv_aload_n hx hb dX9_feed_20 rfl (lv_at hl 0 rfl) ?_
    refine lv_iload_n hx hb dX9_feed_21 rfl (lv_at hl 2 rfl) ?_
    have hPc := hP.sub (ws' := [(h0, .inr (9, [.int 0, (u1 : Value), (u2 : Value), (u3 : Value), (u4 : Value), .int 0, .int 0, .int 0, .int 0, (u9 : Value), (u10 : Value), (u11 : Value), (u12 : Value), (u13 : Value), (u14 : Value), .ref bmt, .int (nI (0 + 4)), (u17 : Value), (u18 : Value), (u19 : Value), (u20 : Value), (u21 : Value), (u22 : Value), (u23 : Value), (u24 : Value), (u25 : Value), (u26 : Value), (u27 : Value), (u28 : Value), (u29 : Value), (u30 : Value), (u31 : Value), (u32 : Value), (u33 : Value), (u34 : Value), (u35 : Value), (u36 : Value), (u37 : Value), (u38 : Value), (u39 : Value), (u40 : Value), (u41 : Value), (u42 : Value), (u43 : Value), (u44 : Value), (u45 : Value), (u46 : Value)])), (bmt, .inl (g.2 2, 200, .inl z4))]) [0, 1] rfl
    have hDc := hD.sub (ws' := [(h0, .inr (9, [.int 0, (u1 : Value), (u2 : Value), (u3 : Value), (u4 : Value), .int 0, .int 0, .int 0, .int 0, (u9 : Value), (u10 : Value), (u11 : Value), (u12 : Value), (u13 : Value), (u14 : Value), .ref bmt, .int (nI (0 + 4)), (u17 : Value), (u18 : Value), (u19 : Value), (u20 : Value), (u21 : Value), (u22 : Value), (u23 : Value), (u24 : Value), (u25 : Value), (u26 : Value), (u27 : Value), (u28 : Value), (u29 : Value), (u30 : Value), (u31 : Value), (u32 : Value), (u33 : Value), (u34 : Value), (u35 : Value), (u36 : Value), (u37 : Value), (u38 : Value), (u39 : Value), (u40 : Value), (u41 : Value), (u42 : Value), (u43 : Value), (u44 : Value), (u45 : Value), (u46 : Value)])), (bmt, .inl (g.2 2, 200, .inl z4))]) [0, 1] (by decide) rfl
    have hFc := va_free (wc := [(h0, .inr (9, [.int 0, (u1 : Value), (u2 : Value), (u3 : Value), (u4 : Value), .int 0, .int 0, .int 0, .int 0, (u9 : Value), (u10 : Value), (u11 : Value), (u12 : Value), (u13 : Value), (u14 : Value), .ref bmt, .int (nI (0 + 4)), (u17 : Value), (u18 : Value), (u19 : Value), (u20 : Value), (u21 : Value), (u22 : Value), (u23 : Value), (u24 : Value), (u25 : Value), (u26 : Value), (u27 : Value), (u28 : Value), (u29 : Value), (u30 : Value), (u31 : Value), (u32 : Value), (u33 : Value), (u34 : Value), (u35 : Value), (u36 : Value), (u37 : Value), (u38 : Value), (u39 : Value), (u40 : Value), (u41 : Value), (u42 : Value), (u43 : Value), (u44 : Value), (u45 : Value), (u46 : Value)])), (bmt, .inl (g.2 2, 200, .inl z4))]) hD hS hA [0, 1] rfl
    refine va_callv (va_runV (As := [.int b]) (rest := []) ⟨hx, hb, hml, hown, hg⟩ (c_X9_types l g _ h0 bmt (0 + 4) z4 ((u1 : Value) : Value) ((u2 : Value) : Value) ((u3 : Value) : Value) ((u4 : Value) : Value) ((u9 : Value) : Value) ((u10 : Value) : Value) ((u11 : Value) : Value) ((u12 : Value) : Value) ((u13 : Value) : Value) ((u14 : Value) : Value) ((u17 : Value) : Value) ((u18 : Value) : Value) ((u19 : Value) : Value) ((u20 : Value) : Value) ((u21 : Value) : Value) ((u22 : Value) : Value) ((u23 : Value) : Value) ((u24 : Value) : Value) ((u25 : Value) : Value) ((u26 : Value) : Value) ((u27 : Value) : Value) ((u28 : Value) : Value) ((u29 : Value) : Value) ((u30 : Value) : Value) ((u31 : Value) : Value) ((u32 : Value) : Value) ((u33 : Value) : Value) ((u34 : Value) : Value) ((u35 : Value) : Value) ((u36 : Value) : Value) ((u37 : Value) : Value) ((u38 : Value) : Value) ((u39 : Value) : Value) ((u40 : Value) : Value) ((u41 : Value) : Value) ((u42 : Value) : Value) ((u43 : Value) : Value) ((u44 : Value) : Value) ((u45 : Value) : Value) ((u46 : Value) : Value) b (by first | omega | assumption | decide | (rw [nI_toInt] <;> omega))) (cwV 1 hg (z_gV mm_1202 mm_1204 mm_61 mm_117 mm_1205) rfl rfl rfl (by decide +kernel) ⟨Nat.le_of_ble_eq_true rfl, Nat.le_of_ble_eq_true rfl⟩) ⟨(zA.pre [.ref h0, .int b] hPc hK hDc hN).1, va_recv hK hPc (ci := 9) (q0 := 0) rfl rfl, (zA.pre [.ref h0, .int b] hPc hK hDc hN).2⟩ rfl rfl hl.1 rfl (lv_room (Nat.le_of_ble_eq_true rfl)) dX9_feed_22 ⟨Nat.le_of_ble_eq_true rfl, Nat.le_of_ble_eq_true rfl⟩) hS (fun q _ h => hFc q h) hFc (fun _ t H1 locs ht hvm hr5 hB hz1 hk1 hS => ?_)
    obtain ⟨z6, hP1, hD1⟩ := hB
    rw [ht] at hP1
    obtain ⟨hP, hD⟩ := va_join (wr := []) (w1 := [(h0, .inr (9, [.int 0, ((u1 : Value) : Value), ((u2 : Value) : Value), ((u3 : Value) : Value), ((u4 : Value) : Value), .int 0, .int 0, .int 0, .int 0, ((u9 : Value) : Value), ((u10 : Value) : Value), ((u11 : Value) : Value), ((u12 : Value) : Value), ((u13 : Value) : Value), ((u14 : Value) : Value), .ref bmt, .int (nI ((0 + 4) + 4)), ((u17 : Value) : Value), ((u18 : Value) : Value), ((u19 : Value) : Value), ((u20 : Value) : Value), ((u21 : Value) : Value), ((u22 : Value) : Value), ((u23 : Value) : Value), ((u24 : Value) : Value), ((u25 : Value) : Value), ((u26 : Value) : Value), ((u27 : Value) : Value), ((u28 : Value) : Value), ((u29 : Value) : Value), ((u30 : Value) : Value), ((u31 : Value) : Value), ((u32 : Value) : Value), ((u33 : Value) : Value), ((u34 : Value) : Value), ((u35 : Value) : Value), ((u36 : Value) : Value), ((u37 : Value) : Value), ((u38 : Value) : Value), ((u39 : Value) : Value), ((u40 : Value) : Value), ((u41 : Value) : Value), ((u42 : Value) : Value), ((u43 : Value) : Value), ((u44 : Value) : Value), ((u45 : Value) : Value), ((u46 : Value) : Value)])), (bmt, .inl (g.2 2, 200, .inl z6))]) hP hD [0, 1] [] rfl rfl (by decide) (by decide) hk1 hFc hP1 hD1
    generalize H1 = H at hP hS ⊢
    refine W.widen (k := 0) (n := 0) (Nat.le_of_ble_eq_true rfl) (Nat.le_of_ble_eq_true rfl) ?_
    have hP : zP g [(h0, .inr (9, [.int 0, ((u1 : Value) : Value), ((u2 : Value) : Value), ((u3 : Value) : Value), ((u4 : Value) : Value), .int 0, .int 0, .int 0, .int 0, ((u9 : Value) : Value), ((u10 : Value) : Value), ((u11 : Value) : Value), ((u12 : Value) : Value), ((u13 : Value) : Value), ((u14 : Value) : Value), .ref bmt, .int (nI ((0 + 4) + 4)), ((u17 : Value) : Value), ((u18 : Value) : Value), ((u19 : Value) : Value), ((u20 : Value) : Value), ((u21 : Value) : Value), ((u22 : Value) : Value), ((u23 : Value) : Value), ((u24 : Value) : Value), ((u25 : Value) : Value), ((u26 : Value) : Value), ((u27 : Value) : Value), ((u28 : Value) : Value), ((u29 : Value) : Value), ((u30 : Value) : Value), ((u31 : Value) : Value), ((u32 : Value) : Value), ((u33 : Value) : Value), ((u34 : Value) : Value), ((u35 : Value) : Value), ((u36 : Value) : Value), ((u37 : Value) : Value), ((u38 : Value) : Value), ((u39 : Value) : Value), ((u40 : Value) : Value), ((u41 : Value) : Value), ((u42 : Value) : Value), ((u43 : Value) : Value), ((u44 : Value) : Value), ((u45 : Value) : Value), ((u46 : Value) : Value)])), (bmt, .inl (g.2 2, 200, .inl z6))] H := hP
    have hD : va_D A [(h0, .inr (9, [.int 0, ((u1 : Value) : Value), ((u2 : Value) : Value), ((u3 : Value) : Value), ((u4 : Value) : Value), .int 0, .int 0, .int 0, .int 0, ((u9 : Value) : Value), ((u10 : Value) : Value), ((u11 : Value) : Value), ((u12 : Value) : Value), ((u13 : Value) : Value), ((u14 : Value) : Value), .ref bmt, .int (nI ((0 + 4) + 4)), ((u17 : Value) : Value), ((u18 : Value) : Value), ((u19 : Value) : Value), ((u20 : Value) : Value), ((u21 : Value) : Value), ((u22 : Value) : Value), ((u23 : Value) : Value), ((u24 : Value) : Value), ((u25 : Value) : Value), ((u26 : Value) : Value), ((u27 : Value) : Value), ((u28 : Value) : Value), ((u29 : Value) : Value), ((u30 : Value) : Value), ((u31 : Value) : Value), ((u32 : Value) : Value), ((u33 : Value) : Value), ((u34 : Value) : Value), ((u35 : Value) : Value), ((u36 : Value) : Value), ((u37 : Value) : Value), ((u38 : Value) : Value), ((u39 : Value) : Value), ((u40 : Value) : Value), ((u41 : Value) : Value), ((u42 : Value) : Value), ((u43 : Value) : Value), ((u44 : Value) : Value), ((u45 : Value) : Value), ((u46 : Value) : Value)])), (bmt, .inl (g.2 2, 200, .inl z6))] := hD
    refine lv_aload_n hx hb dX9_feed_25 rfl (lv_at hl 0 rfl) ?_
    refine lv_iload_n hx hb dX9_feed_26 rfl (lv_at hl 3 rfl) ?_
    have hPc := hP.sub (ws' := [(h0, .inr (9, [.int 0, ((u1 : Value) : Value), ((u2 : Value) : Value), ((u3 : Value) : Value), ((u4 : Value) : Value), .int 0, .int 0, .int 0, .int 0, ((u9 : Value) : Value), ((u10 : Value) : Value), ((u11 : Value) : Value), ((u12 : Value) : Value), ((u13 : Value) : Value), ((u14 : Value) : Value), .ref bmt, .int (nI ((0 + 4) + 4)), ((u17 : Value) : Value), ((u18 : Value) : Value), ((u19 : Value) : Value), ((u20 : Value) : Value), ((u21 : Value) : Value), ((u22 : Value) : Value), ((u23 : Value) : Value), ((u24 : Value) : Value), ((u25 : Value) : Value), ((u26 : Value) : Value), ((u27 : Value) : Value), ((u28 : Value) : Value), ((u29 : Value) : Value), ((u30 : Value) : Value), ((u31 : Value) : Value), ((u32 : Value) : Value), ((u33 : Value) : Value), ((u34 : Value) : Value), ((u35 : Value) : Value), ((u36 : Value) : Value), ((u37 : Value) : Value), ((u38 : Value) : Value), ((u39 : Value) : Value), ((u40 : Value) : Value), ((u41 : Value) : Value), ((u42 : Value) : Value), ((u43 : Value) : Value), ((u44 : Value) : Value), ((u45 : Value) : Value), ((u46 : Value) : Value)])), (bmt, .inl (g.2 2, 200, .inl z6))]) [0, 1] rfl
    have hDc := hD.sub (ws' := [(h0, .inr (9, [.int 0, ((u1 : Value) : Value), ((u2 : Value) : Value), ((u3 : Value) : Value), ((u4 : Value) : Value), .int 0, .int 0, .int 0, .int 0, ((u9 : Value) : Value), ((u10 : Value) : Value), ((u11 : Value) : Value), ((u12 : Value) : Value), ((u13 : Value) : Value), ((u14 : Value) : Value), .ref bmt, .int (nI ((0 + 4) + 4)), ((u17 : Value) : Value), ((u18 : Value) : Value), ((u19 : Value) : Value), ((u20 : Value) : Value), ((u21 : Value) : Value), ((u22 : Value) : Value), ((u23 : Value) : Value), ((u24 : Value) : Value), ((u25 : Value) : Value), ((u26 : Value) : Value), ((u27 : Value) : Value), ((u28 : Value) : Value), ((u29 : Value) : Value), ((u30 : Value) : Value), ((u31 : Value) : Value), ((u32 : Value) : Value), ((u33 : Value) : Value), ((u34 : Value) : Value), ((u35 : Value) : Value), ((u36 : Value) : Value), ((u37 : Value) : Value), ((u38 : Value) : Value), ((u39 : Value) : Value), ((u40 : Value) : Value), ((u41 : Value) : Value), ((u42 : Value) : Value), ((u43 : Value) : Value), ((u44 : Value) : Value), ((u45 : Value) : Value), ((u46 : Value) : Value)])), (bmt, .inl (g.2 2, 200, .inl z6))]) [0, 1] (by decide) rfl
    have hFc := va_free (wc := [(h0, .inr (9, [.int 0, ((u1 : Value) : Value), ((u2 : Value) : Value), ((u3 : Value) : Value), ((u4 : Value) : Value), .int 0, .int 0, .int 0, .int 0, ((u9 : Value) : Value), ((u10 : Value) : Value), ((u11 : Value) : Value), ((u12 : Value) : Value), ((u13 : Value) : Value), ((u14 : Value) : Value), .ref bmt, .int (nI ((0 + 4) + 4)), ((u17 : Value) : Value), ((u18 : Value) : Value), ((u19 : Value) : Value), ((u20 : Value) : Value), ((u21 : Value) : Value), ((u22 : Value) : Value), ((u23 : Value) : Value), ((u24 : Value) : Value), ((u25 : Value) : Value), ((u26 : Value) : Value), ((u27 : Value) : Value), ((u28 : Value) : Value), ((u29 : Value) : Value), ((u30 : Value) : Value), ((u31 : Value) : Value), ((u32 : Value) : Value), ((u33 : Value) : Value), ((u34 : Value) : Value), ((u35 : Value) : Value), ((u36 : Value) : Value), ((u37 : Value) : Value), ((u38 : Value) : Value), ((u39 : Value) : Value), ((u40 : Value) : Value), ((u41 : Value) : Value), ((u42 : Value) : Value), ((u43 : Value) : Value), ((u44 : Value) : Value), ((u45 : Value) : Value), ((u46 : Value) : Value)])), (bmt, .inl (g.2 2, 200, .inl z6))]) hD hS hA [0, 1] rfl
    refine va_callv (va_runV (As := [.int c0]) (rest := []) ⟨hx, hb, hml, hown, hg⟩ (c_X9_types l g _ h0 bmt ((0 + 4) + 4) z6 (((u1 : Value) : Value) : Value) (((u2 : Value) : Value) : Value) (((u3 : Value) : Value) : Value) (((u4 : Value) : Value) : Value) (((u9 : Value) : Value) : Value) (((u10 : Value) : Value) : Value) (((u11 : Value) : Value) : Value) (((u12 : Value) : Value) : Value) (((u13 : Value) : Value) : Value) (((u14 : Value) : Value) : Value) (((u17 : Value) : Value) : Value) (((u18 : Value) : Value) : Value) (((u19 : Value) : Value) : Value) (((u20 : Value) : Value) : Value) (((u21 : Value) : Value) : Value) (((u22 : Value) : Value) : Value) (((u23 : Value) : Value) : Value) (((u24 : Value) : Value) : Value) (((u25 : Value) : Value) : Value) (((u26 : Value) : Value) : Value) (((u27 : Value) : Value) : Value) (((u28 : Value) : Value) : Value) (((u29 : Value) : Value) : Value) (((u30 : Value) : Value) : Value) (((u31 : Value) : Value) : Value) (((u32 : Value) : Value) : Value) (((u33 : Value) : Value) : Value) (((u34 : Value) : Value) : Value) (((u35 : Value) : Value) : Value) (((u36 : Value) : Value) : Value) (((u37 : Value) : Value) : Value) (((u38 : Value) : Value) : Value) (((u39 : Value) : Value) : Value) (((u40 : Value) : Value) : Value) (((u41 : Value) : Value) : Value) (((u42 : Value) : Value) : Value) (((u43 : Value) : Value) : Value) (((u44 : Value) : Value) : Value) (((u45 : Value) : Value) : Value) (((u46 : Value) : Value) : Value) c0 (by first | omega | assumption | decide | (rw [nI_toInt] <;> omega))) (cwV 1 hg (z_gV mm_1202 mm_1204 mm_61 mm_117 mm_1205) rfl rfl rfl (by decide +kernel) ⟨Nat.le_of_ble_eq_true rfl, Nat.le_of_ble_eq_true rfl⟩) ⟨(zA.pre [.ref h0, .int c0] hPc hK hDc hN).1, va_recv hK hPc (ci := 9) (q0 := 0) rfl rfl, (zA.pre [.ref h0, .int c0] hPc hK hDc hN).2⟩ rfl rfl hl.1 rfl (lv_room (Nat.le_of_ble_eq_true rfl)) dX9_feed_27 ⟨Nat.le_of_ble_eq_true rfl, Nat.le_of_ble_eq_true rfl⟩) hS (fun q _ h => hFc q h) hFc (fun _ t H1 locs ht hvm hr7 hB hz1 hk1 hS => ?_)
    obtain ⟨z8, hP1, hD1⟩ := hB
    rw [ht] at hP1
    obtain ⟨hP, hD⟩ := va_join (wr := []) (w1 := [(h0, .inr (9, [.int 0, (((u1 : Value) : Value) : Value), (((u2 : Value) : Value) : Value), (((u3 : Value) : Value) : Value), (((u4 : Value) : Value) : Value), .int 0, .int 0, .int 0, .int 0, (((u9 : Value) : Value) : Value), (((u10 : Value) : Value) : Value), (((u11 : Value) : Value) : Value), (((u12 : Value) : Value) : Value), (((u13 : Value) : Value) : Value), (((u14 : Value) : Value) : Value), .ref bmt, .int (nI (((0 + 4) + 4) + 4)), (((u17 : Value) : Value) : Value), (((u18 : Value) : Value) : Value), (((u19 : Value) : Value) : Value), (((u20 : Value) : Value) : Value), (((u21 : Value) : Value) : Value), (((u22 : Value) : Value) : Value), (((u23 : Value) : Value) : Value), (((u24 : Value) : Value) : Value), (((u25 : Value) : Value) : Value), (((u26 : Value) : Value) : Value), (((u27 : Value) : Value) : Value), (((u28 : Value) : Value) : Value), (((u29 : Value) : Value) : Value), (((u30 : Value) : Value) : Value), (((u31 : Value) : Value) : Value), (((u32 : Value) : Value) : Value), (((u33 : Value) : Value) : Value), (((u34 : Value) : Value) : Value), (((u35 : Value) : Value) : Value), (((u36 : Value) : Value) : Value), (((u37 : Value) : Value) : Value), (((u38 : Value) : Value) : Value), (((u39 : Value) : Value) : Value), (((u40 : Value) : Value) : Value), (((u41 : Value) : Value) : Value), (((u42 : Value) : Value) : Value), (((u43 : Value) : Value) : Value), (((u44 : Value) : Value) : Value), (((u45 : Value) : Value) : Value), (((u46 : Value) : Value) : Value)])), (bmt, .inl (g.2 2, 200, .inl z8))]) hP hD [0, 1] [] rfl rfl (by decide) (by decide) hk1 hFc hP1 hD1
    generalize H1 = H at hP hS ⊢
    refine W.widen (k := 0) (n := 0) (Nat.le_of_ble_eq_true rfl) (Nat.le_of_ble_eq_true rfl) ?_
    have hP : zP g [(h0, .inr (9, [.int 0, (((u1 : Value) : Value) : Value), (((u2 : Value) : Value) : Value), (((u3 : Value) : Value) : Value), (((u4 : Value) : Value) : Value), .int 0, .int 0, .int 0, .int 0, (((u9 : Value) : Value) : Value), (((u10 : Value) : Value) : Value), (((u11 : Value) : Value) : Value), (((u12 : Value) : Value) : Value), (((u13 : Value) : Value) : Value), (((u14 : Value) : Value) : Value), .ref bmt, .int (nI (((0 + 4) + 4) + 4)), (((u17 : Value) : Value) : Value), (((u18 : Value) : Value) : Value), (((u19 : Value) : Value) : Value), (((u20 : Value) : Value) : Value), (((u21 : Value) : Value) : Value), (((u22 : Value) : Value) : Value), (((u23 : Value) : Value) : Value), (((u24 : Value) : Value) : Value), (((u25 : Value) : Value) : Value), (((u26 : Value) : Value) : Value), (((u27 : Value) : Value) : Value), (((u28 : Value) : Value) : Value), (((u29 : Value) : Value) : Value), (((u30 : Value) : Value) : Value), (((u31 : Value) : Value) : Value), (((u32 : Value) : Value) : Value), (((u33 : Value) : Value) : Value), (((u34 : Value) : Value) : Value), (((u35 : Value) : Value) : Value), (((u36 : Value) : Value) : Value), (((u37 : Value) : Value) : Value), (((u38 : Value) : Value) : Value), (((u39 : Value) : Value) : Value), (((u40 : Value) : Value) : Value), (((u41 : Value) : Value) : Value), (((u42 : Value) : Value) : Value), (((u43 : Value) : Value) : Value), (((u44 : Value) : Value) : Value), (((u45 : Value) : Value) : Value), (((u46 : Value) : Value) : Value)])), (bmt, .inl (g.2 2, 200, .inl z8))] H := hP
    have hD : va_D A [(h0, .inr (9, [.int 0, (((u1 : Value) : Value) : Value), (((u2 : Value) : Value) : Value), (((u3 : Value) : Value) : Value), (((u4 : Value) : Value) : Value), .int 0, .int 0, .int 0, .int 0, (((u9 : Value) : Value) : Value), (((u10 : Value) : Value) : Value), (((u11 : Value) : Value) : Value), (((u12 : Value) : Value) : Value), (((u13 : Value) : Value) : Value), (((u14 : Value) : Value) : Value), .ref bmt, .int (nI (((0 + 4) + 4) + 4)), (((u17 : Value) : Value) : Value), (((u18 : Value) : Value) : Value), (((u19 : Value) : Value) : Value), (((u20 : Value) : Value) : Value), (((u21 : Value) : Value) : Value), (((u22 : Value) : Value) : Value), (((u23 : Value) : Value) : Value), (((u24 : Value) : Value) : Value), (((u25 : Value) : Value) : Value), (((u26 : Value) : Value) : Value), (((u27 : Value) : Value) : Value), (((u28 : Value) : Value) : Value), (((u29 : Value) : Value) : Value), (((u30 : Value) : Value) : Value), (((u31 : Value) : Value) : Value), (((u32 : Value) : Value) : Value), (((u33 : Value) : Value) : Value), (((u34 : Value) : Value) : Value), (((u35 : Value) : Value) : Value), (((u36 : Value) : Value) : Value), (((u37 : Value) : Value) : Value), (((u38 : Value) : Value) : Value), (((u39 : Value) : Value) : Value), (((u40 : Value) : Value) : Value), (((u41 : Value) : Value) : Value), (((u42 : Value) : Value) : Value), (((u43 : Value) : Value) : Value), (((u44 : Value) : Value) : Value), (((u45 : Value) : Value) : Value), (((u46 : Value) : Value) : Value)])), (bmt, .inl (g.2 2, 200, .inl z8))] := hD
    refine lv_aload_n hx hb dX9_feed_30 rfl (lv_at hl 0 rfl) ?_
    refine lv_iload hx hb dX9_feed_31 (lv_at hl 4 rfl) ?_
    have hPc := hP.sub (ws' := [(h0, .inr (9, [.int 0, (((u1 : Value) : Value) : Value), (((u2 : Value) : Value) : Value), (((u3 : Value) : Value) : Value), (((u4 : Value) : Value) : Value), .int 0, .int 0, .int 0, .int 0, (((u9 : Value) : Value) : Value), (((u10 : Value) : Value) : Value), (((u11 : Value) : Value) : Value), (((u12 : Value) : Value) : Value), (((u13 : Value) : Value) : Value), (((u14 : Value) : Value) : Value), .ref bmt, .int (nI (((0 + 4) + 4) + 4)), (((u17 : Value) : Value) : Value), (((u18 : Value) : Value) : Value), (((u19 : Value) : Value) : Value), (((u20 : Value) : Value) : Value), (((u21 : Value) : Value) : Value), (((u22 : Value) : Value) : Value), (((u23 : Value) : Value) : Value), (((u24 : Value) : Value) : Value), (((u25 : Value) : Value) : Value), (((u26 : Value) : Value) : Value), (((u27 : Value) : Value) : Value), (((u28 : Value) : Value) : Value), (((u29 : Value) : Value) : Value), (((u30 : Value) : Value) : Value), (((u31 : Value) : Value) : Value), (((u32 : Value) : Value) : Value), (((u33 : Value) : Value) : Value), (((u34 : Value) : Value) : Value), (((u35 : Value) : Value) : Value), (((u36 : Value) : Value) : Value), (((u37 : Value) : Value) : Value), (((u38 : Value) : Value) : Value), (((u39 : Value) : Value) : Value), (((u40 : Value) : Value) : Value), (((u41 : Value) : Value) : Value), (((u42 : Value) : Value) : Value), (((u43 : Value) : Value) : Value), (((u44 : Value) : Value) : Value), (((u45 : Value) : Value) : Value), (((u46 : Value) : Value) : Value)])), (bmt, .inl (g.2 2, 200, .inl z8))]) [0, 1] rfl
    have hDc := hD.sub (ws' := [(h0, .inr (9, [.int 0, (((u1 : Value) : Value) : Value), (((u2 : Value) : Value) : Value), (((u3 : Value) : Value) : Value), (((u4 : Value) : Value) : Value), .int 0, .int 0, .int 0, .int 0, (((u9 : Value) : Value) : Value), (((u10 : Value) : Value) : Value), (((u11 : Value) : Value) : Value), (((u12 : Value) : Value) : Value), (((u13 : Value) : Value) : Value), (((u14 : Value) : Value) : Value), .ref bmt, .int (nI (((0 + 4) + 4) + 4)), (((u17 : Value) : Value) : Value), (((u18 : Value) : Value) : Value), (((u19 : Value) : Value) : Value), (((u20 : Value) : Value) : Value), (((u21 : Value) : Value) : Value), (((u22 : Value) : Value) : Value), (((u23 : Value) : Value) : Value), (((u24 : Value) : Value) : Value), (((u25 : Value) : Value) : Value), (((u26 : Value) : Value) : Value), (((u27 : Value) : Value) : Value), (((u28 : Value) : Value) : Value), (((u29 : Value) : Value) : Value), (((u30 : Value) : Value) : Value), (((u31 : Value) : Value) : Value), (((u32 : Value) : Value) : Value), (((u33 : Value) : Value) : Value), (((u34 : Value) : Value) : Value), (((u35 : Value) : Value) : Value), (((u36 : Value) : Value) : Value), (((u37 : Value) : Value) : Value), (((u38 : Value) : Value) : Value), (((u39 : Value) : Value) : Value), (((u40 : Value) : Value) : Value), (((u41 : Value) : Value) : Value), (((u42 : Value) : Value) : Value), (((u43 : Value) : Value) : Value), (((u44 : Value) : Value) : Value), (((u45 : Value) : Value) : Value), (((u46 : Value) : Value) : Value)])), (bmt, .inl (g.2 2, 200, .inl z8))]) [0, 1] (by decide) rfl
    have hFc := va_free (wc := [(h0, .inr (9, [.int 0, (((u1 : Value) : Value) : Value), (((u2 : Value) : Value) : Value), (((u3 : Value) : Value) : Value), (((u4 : Value) : Value) : Value), .int 0, .int 0, .int 0, .int 0, (((u9 : Value) : Value) : Value), (((u10 : Value) : Value) : Value), (((u11 : Value) : Value) : Value), (((u12 : Value) : Value) : Value), (((u13 : Value) : Value) : Value), (((u14 : Value) : Value) : Value), .ref bmt, .int (nI (((0 + 4) + 4) + 4)), (((u17 : Value) : Value) : Value), (((u18 : Value) : Value) : Value), (((u19 : Value) : Value) : Value), (((u20 : Value) : Value) : Value), (((u21 : Value) : Value) : Value), (((u22 : Value) : Value) : Value), (((u23 : Value) : Value) : Value), (((u24 : Value) : Value) : Value), (((u25 : Value) : Value) : Value), (((u26 : Value) : Value) : Value), (((u27 : Value) : Value) : Value), (((u28 : Value) : Value) : Value), (((u29 : Value) : Value) : Value), (((u30 : Value) : Value) : Value), (((u31 : Value) : Value) : Value), (((u32 : Value) : Value) : Value), (((u33 : Value) : Value) : Value), (((u34 : Value) : Value) : Value), (((u35 : Value) : Value) : Value), (((u36 : Value) : Value) : Value), (((u37 : Value) : Value) : Value), (((u38 : Value) : Value) : Value), (((u39 : Value) : Value) : Value), (((u40 : Value) : Value) : Value), (((u41 : Value) : Value) : Value), (((u42 : Value) : Value) : Value), (((u43 : Value) : Value) : Value), (((u44 : Value) : Value) : Value), (((u45 : Value) : Value) : Value), (((u46 : Value) : Value) : Value)])), (bmt, .inl (g.2 2, 200, .inl z8))]) hD hS hA [0, 1] rfl
    refine va_callv (va_runV (As := [.int d0]) (rest := []) ⟨hx, hb, hml, hown, hg⟩ (c_X9_types l g _ h0 bmt (((0 + 4) + 4) + 4) z8 ((((u1 : Value) : Value) : Value) : Value) ((((u2 : Value) : Value) : Value) : Value) ((((u3 : Value) : Value) : Value) : Value) ((((u4 : Value) : Value) : Value) : Value) ((((u9 : Value) : Value) : Value) : Value) ((((u10 : Value) : Value) : Value) : Value) ((((u11 : Value) : Value) : Value) : Value) ((((u12 : Value) : Value) : Value) : Value) ((((u13 : Value) : Value) : Value) : Value) ((((u14 : Value) : Value) : Value) : Value) ((((u17 : Value) : Value) : Value) : Value) ((((u18 : Value) : Value) : Value) : Value) ((((u19 : Value) : Value) : Value) : Value) ((((u20 : Value) : Value) : Value) : Value) ((((u21 : Value) : Value) : Value) : Value) ((((u22 : Value) : Value) : Value) : Value) ((((u23 : Value) : Value) : Value) : Value) ((((u24 : Value) : Value) : Value) : Value) ((((u25 : Value) : Value) : Value) : Value) ((((u26 : Value) : Value) : Value) : Value) ((((u27 : Value) : Value) : Value) : Value) ((((u28 : Value) : Value) : Value) : Value) ((((u29 : Value) : Value) : Value) : Value) ((((u30 : Value) : Value) : Value) : Value) ((((u31 : Value) : Value) : Value) : Value) ((((u32 : Value) : Value) : Value) : Value) ((((u33 : Value) : Value) : Value) : Value) ((((u34 : Value) : Value) : Value) : Value) ((((u35 : Value) : Value) : Value) : Value) ((((u36 : Value) : Value) : Value) : Value) ((((u37 : Value) : Value) : Value) : Value) ((((u38 : Value) : Value) : Value) : Value) ((((u39 : Value) : Value) : Value) : Value) ((((u40 : Value) : Value) : Value) : Value) ((((u41 : Value) : Value) : Value) : Value) ((((u42 : Value) : Value) : Value) : Value) ((((u43 : Value) : Value) : Value) : Value) ((((u44 : Value) : Value) : Value) : Value) ((((u45 : Value) : Value) : Value) : Value) ((((u46 : Value) : Value) : Value) : Value) d0 (by first | omega | assumption | decide | (rw [nI_toInt] <;> omega))) (cwV 1 hg (z_gV mm_1202 mm_1204 mm_61 mm_117 mm_1205) rfl rfl rfl (by decide +kernel) ⟨Nat.le_of_ble_eq_true rfl, Nat.le_of_ble_eq_true rfl⟩) ⟨(zA.pre [.ref h0, .int d0] hPc hK hDc hN).1, va_recv hK hPc (ci := 9) (q0 := 0) rfl rfl, (zA.pre [.ref h0, .int d0] hPc hK hDc hN).2⟩ rfl rfl hl.1 rfl (lv_room (Nat.le_of_ble_eq_true rfl)) dX9_feed_33 ⟨Nat.le_of_ble_eq_true rfl, Nat.le_of_ble_eq_true rfl⟩) hS (fun q _ h => hFc q h) hFc (fun _ t H1 locs ht hvm hr9 hB hz1 hk1 hS => ?_)
    obtain ⟨z10, hP1, hD1⟩ := hB
    rw [ht] at hP1
    obtain ⟨hP, hD⟩ := va_join (wr := []) (w1 := [(h0, .inr (9, [.int 0, ((((u1 : Value) : Value) : Value) : Value), ((((u2 : Value) : Value) : Value) : Value), ((((u3 : Value) : Value) : Value) : Value), ((((u4 : Value) : Value) : Value) : Value), .int 0, .int 0, .int 0, .int 0, ((((u9 : Value) : Value) : Value) : Value), ((((u10 : Value) : Value) : Value) : Value), ((((u11 : Value) : Value) : Value) : Value), ((((u12 : Value) : Value) : Value) : Value), ((((u13 : Value) : Value) : Value) : Value), ((((u14 : Value) : Value) : Value) : Value), .ref bmt, .int (nI ((((0 + 4) + 4) + 4) + 4)), ((((u17 : Value) : Value) : Value) : Value), ((((u18 : Value) : Value) : Value) : Value), ((((u19 : Value) : Value) : Value) : Value), ((((u20 : Value) : Value) : Value) : Value), ((((u21 : Value) : Value) : Value) : Value), ((((u22 : Value) : Value) : Value) : Value), ((((u23 : Value) : Value) : Value) : Value), ((((u24 : Value) : Value) : Value) : Value), ((((u25 : Value) : Value) : Value) : Value), ((((u26 : Value) : Value) : Value) : Value), ((((u27 : Value) : Value) : Value) : Value), ((((u28 : Value) : Value) : Value) : Value), ((((u29 : Value) : Value) : Value) : Value), ((((u30 : Value) : Value) : Value) : Value), ((((u31 : Value) : Value) : Value) : Value), ((((u32 : Value) : Value) : Value) : Value), ((((u33 : Value) : Value) : Value) : Value), ((((u34 : Value) : Value) : Value) : Value), ((((u35 : Value) : Value) : Value) : Value), ((((u36 : Value) : Value) : Value) : Value), ((((u37 : Value) : Value) : Value) : Value), ((((u38 : Value) : Value) : Value) : Value), ((((u39 : Value) : Value) : Value) : Value), ((((u40 : Value) : Value) : Value) : Value), ((((u41 : Value) : Value) : Value) : Value), ((((u42 : Value) : Value) : Value) : Value), ((((u43 : Value) : Value) : Value) : Value), ((((u44 : Value) : Value) : Value) : Value), ((((u45 : Value) : Value) : Value) : Value), ((((u46 : Value) : Value) : Value) : Value)])), (bmt, .inl (g.2 2, 200, .inl z10))]) hP hD [0, 1] [] rfl rfl (by decide) (by decide) hk1 hFc hP1 hD1
    generalize H1 = H at hP hS ⊢
    refine W.widen (k := 0) (n := 0) (Nat.le_of_ble_eq_true rfl) (Nat.le_of_ble_eq_true rfl) ?_
    have hP : zP g [(h0, .inr (9, [.int 0, ((((u1 : Value) : Value) : Value) : Value), ((((u2 : Value) : Value) : Value) : Value), ((((u3 : Value) : Value) : Value) : Value), ((((u4 : Value) : Value) : Value) : Value), .int 0, .int 0, .int 0, .int 0, ((((u9 : Value) : Value) : Value) : Value), ((((u10 : Value) : Value) : Value) : Value), ((((u11 : Value) : Value) : Value) : Value), ((((u12 : Value) : Value) : Value) : Value), ((((u13 : Value) : Value) : Value) : Value), ((((u14 : Value) : Value) : Value) : Value), .ref bmt, .int (nI ((((0 + 4) + 4) + 4) + 4)), ((((u17 : Value) : Value) : Value) : Value), ((((u18 : Value) : Value) : Value) : Value), ((((u19 : Value) : Value) : Value) : Value), ((((u20 : Value) : Value) : Value) : Value), ((((u21 : Value) : Value) : Value) : Value), ((((u22 : Value) : Value) : Value) : Value), ((((u23 : Value) : Value) : Value) : Value), ((((u24 : Value) : Value) : Value) : Value), ((((u25 : Value) : Value) : Value) : Value), ((((u26 : Value) : Value) : Value) : Value), ((((u27 : Value) : Value) : Value) : Value), ((((u28 : Value) : Value) : Value) : Value), ((((u29 : Value) : Value) : Value) : Value), ((((u30 : Value) : Value) : Value) : Value), ((((u31 : Value) : Value) : Value) : Value), ((((u32 : Value) : Value) : Value) : Value), ((((u33 : Value) : Value) : Value) : Value), ((((u34 : Value) : Value) : Value) : Value), ((((u35 : Value) : Value) : Value) : Value), ((((u36 : Value) : Value) : Value) : Value), ((((u37 : Value) : Value) : Value) : Value), ((((u38 : Value) : Value) : Value) : Value), ((((u39 : Value) : Value) : Value) : Value), ((((u40 : Value) : Value) : Value) : Value), ((((u41 : Value) : Value) : Value) : Value), ((((u42 : Value) : Value) : Value) : Value), ((((u43 : Value) : Value) : Value) : Value), ((((u44 : Value) : Value) : Value) : Value), ((((u45 : Value) : Value) : Value) : Value), ((((u46 : Value) : Value) : Value) : Value)])), (bmt, .inl (g.2 2, 200, .inl z10))] H := hP
    have hD : va_D A [(h0, .inr (9, [.int 0, ((((u1 : Value) : Value) : Value) : Value), ((((u2 : Value) : Value) : Value) : Value), ((((u3 : Value) : Value) : Value) : Value), ((((u4 : Value) : Value) : Value) : Value), .int 0, .int 0, .int 0, .int 0, ((((u9 : Value) : Value) : Value) : Value), ((((u10 : Value) : Value) : Value) : Value), ((((u11 : Value) : Value) : Value) : Value), ((((u12 : Value) : Value) : Value) : Value), ((((u13 : Value) : Value) : Value) : Value), ((((u14 : Value) : Value) : Value) : Value), .ref bmt, .int (nI ((((0 + 4) + 4) + 4) + 4)), ((((u17 : Value) : Value) : Value) : Value), ((((u18 : Value) : Value) : Value) : Value), ((((u19 : Value) : Value) : Value) : Value), ((((u20 : Value) : Value) : Value) : Value), ((((u21 : Value) : Value) : Value) : Value), ((((u22 : Value) : Value) : Value) : Value), ((((u23 : Value) : Value) : Value) : Value), ((((u24 : Value) : Value) : Value) : Value), ((((u25 : Value) : Value) : Value) : Value), ((((u26 : Value) : Value) : Value) : Value), ((((u27 : Value) : Value) : Value) : Value), ((((u28 : Value) : Value) : Value) : Value), ((((u29 : Value) : Value) : Value) : Value), ((((u30 : Value) : Value) : Value) : Value), ((((u31 : Value) : Value) : Value) : Value), ((((u32 : Value) : Value) : Value) : Value), ((((u33 : Value) : Value) : Value) : Value), ((((u34 : Value) : Value) : Value) : Value), ((((u35 : Value) : Value) : Value) : Value), ((((u36 : Value) : Value) : Value) : Value), ((((u37 : Value) : Value) : Value) : Value), ((((u38 : Value) : Value) : Value) : Value), ((((u39 : Value) : Value) : Value) : Value), ((((u40 : Value) : Value) : Value) : Value), ((((u41 : Value) : Value) : Value) : Value), ((((u42 : Value) : Value) : Value) : Value), ((((u43 : Value) : Value) : Value) : Value), ((((u44 : Value) : Value) : Value) : Value), ((((u45 : Value) : Value) : Value) : Value), ((((u46 : Value) : Value) : Value) : Value)])), (bmt, .inl (g.2 2, 200, .inl z10))] := hD
    refine lv_aload_n hx hb dX9_feed_36 rfl (lv_at hl 0 rfl) ?_
    refine lv_iload hx hb dX9_feed_37 (lv_at hl 5 rfl) ?_
    have hPc := hP.sub (ws' := [(h0, .inr (9, [.int 0, ((((u1 : Value) : Value) : Value) : Value), ((((u2 : Value) : Value) : Value) : Value), ((((u3 : Value) : Value) : Value) : Value), ((((u4 : Value) : Value) : Value) : Value), .int 0, .int 0, .int 0, .int 0, ((((u9 : Value) : Value) : Value) : Value), ((((u10 : Value) : Value) : Value) : Value), ((((u11 : Value) : Value) : Value) : Value), ((((u12 : Value) : Value) : Value) : Value), ((((u13 : Value) : Value) : Value) : Value), ((((u14 : Value) : Value) : Value) : Value), .ref bmt, .int (nI ((((0 + 4) + 4) + 4) + 4)), ((((u17 : Value) : Value) : Value) : Value), ((((u18 : Value) : Value) : Value) : Value), ((((u19 : Value) : Value) : Value) : Value), ((((u20 : Value) : Value) : Value) : Value), ((((u21 : Value) : Value) : Value) : Value), ((((u22 : Value) : Value) : Value) : Value), ((((u23 : Value) : Value) : Value) : Value), ((((u24 : Value) : Value) : Value) : Value), ((((u25 : Value) : Value) : Value) : Value), ((((u26 : Value) : Value) : Value) : Value), ((((u27 : Value) : Value) : Value) : Value), ((((u28 : Value) : Value) : Value) : Value), ((((u29 : Value) : Value) : Value) : Value), ((((u30 : Value) : Value) : Value) : Value), ((((u31 : Value) : Value) : Value) : Value), ((((u32 : Value) : Value) : Value) : Value), ((((u33 : Value) : Value) : Value) : Value), ((((u34 : Value) : Value) : Value) : Value), ((((u35 : Value) : Value) : Value) : Value), ((((u36 : Value) : Value) : Value) : Value), ((((u37 : Value) : Value) : Value) : Value), ((((u38 : Value) : Value) : Value) : Value), ((((u39 : Value) : Value) : Value) : Value), ((((u40 : Value) : Value) : Value) : Value), ((((u41 : Value) : Value) : Value) : Value), ((((u42 : Value) : Value) : Value) : Value), ((((u43 : Value) : Value) : Value) : Value), ((((u44 : Value) : Value) : Value) : Value), ((((u45 : Value) : Value) : Value) : Value), ((((u46 : Value) : Value) : Value) : Value)])), (bmt, .inl (g.2 2, 200, .inl z10))]) [0, 1] rfl
    have hDc := hD.sub (ws' := [(h0, .inr (9, [.int 0, ((((u1 : Value) : Value) : Value) : Value), ((((u2 : Value) : Value) : Value) : Value), ((((u3 : Value) : Value) : Value) : Value), ((((u4 : Value) : Value) : Value) : Value), .int 0, .int 0, .int 0, .int 0, ((((u9 : Value) : Value) : Value) : Value), ((((u10 : Value) : Value) : Value) : Value), ((((u11 : Value) : Value) : Value) : Value), ((((u12 : Value) : Value) : Value) : Value), ((((u13 : Value) : Value) : Value) : Value), ((((u14 : Value) : Value) : Value) : Value), .ref bmt, .int (nI ((((0 + 4) + 4) + 4) + 4)), ((((u17 : Value) : Value) : Value) : Value), ((((u18 : Value) : Value) : Value) : Value), ((((u19 : Value) : Value) : Value) : Value), ((((u20 : Value) : Value) : Value) : Value), ((((u21 : Value) : Value) : Value) : Value), ((((u22 : Value) : Value) : Value) : Value), ((((u23 : Value) : Value) : Value) : Value), ((((u24 : Value) : Value) : Value) : Value), ((((u25 : Value) : Value) : Value) : Value), ((((u26 : Value) : Value) : Value) : Value), ((((u27 : Value) : Value) : Value) : Value), ((((u28 : Value) : Value) : Value) : Value), ((((u29 : Value) : Value) : Value) : Value), ((((u30 : Value) : Value) : Value) : Value), ((((u31 : Value) : Value) : Value) : Value), ((((u32 : Value) : Value) : Value) : Value), ((((u33 : Value) : Value) : Value) : Value), ((((u34 : Value) : Value) : Value) : Value), ((((u35 : Value) : Value) : Value) : Value), ((((u36 : Value) : Value) : Value) : Value), ((((u37 : Value) : Value) : Value) : Value), ((((u38 : Value) : Value) : Value) : Value), ((((u39 : Value) : Value) : Value) : Value), ((((u40 : Value) : Value) : Value) : Value), ((((u41 : Value) : Value) : Value) : Value), ((((u42 : Value) : Value) : Value) : Value), ((((u43 : Value) : Value) : Value) : Value), ((((u44 : Value) : Value) : Value) : Value), ((((u45 : Value) : Value) : Value) : Value), ((((u46 : Value) : Value) : Value) : Value)])), (bmt, .inl (g.2 2, 200, .inl z10))]) [0, 1] (by decide) rfl
    have hFc := va_free (wc := [(h0, .inr (9, [.int 0, ((((u1 : Value) : Value) : Value) : Value), ((((u2 : Value) : Value) : Value) : Value), ((((u3 : Value) : Value) : Value) : Value), ((((u4 : Value) : Value) : Value) : Value), .int 0, .int 0, .int 0, .int 0, ((((u9 : Value) : Value) : Value) : Value), ((((u10 : Value) : Value) : Value) : Value), ((((u11 : Value) : Value) : Value) : Value), ((((u12 : Value) : Value) : Value) : Value), ((((u13 : Value) : Value) : Value) : Value), ((((u14 : Value) : Value) : Value) : Value), .ref bmt, .int (nI ((((0 + 4) + 4) + 4) + 4)), ((((u17 : Value) : Value) : Value) : Value), ((((u18 : Value) : Value) : Value) : Value), ((((u19 : Value) : Value) : Value) : Value), ((((u20 : Value) : Value) : Value) : Value), ((((u21 : Value) : Value) : Value) : Value), ((((u22 : Value) : Value) : Value) : Value), ((((u23 : Value) : Value) : Value) : Value), ((((u24 : Value) : Value) : Value) : Value), ((((u25 : Value) : Value) : Value) : Value), ((((u26 : Value) : Value) : Value) : Value), ((((u27 : Value) : Value) : Value) : Value), ((((u28 : Value) : Value) : Value) : Value), ((((u29 : Value) : Value) : Value) : Value), ((((u30 : Value) : Value) : Value) : Value), ((((u31 : Value) : Value) : Value) : Value), ((((u32 : Value) : Value) : Value) : Value), ((((u33 : Value) : Value) : Value) : Value), ((((u34 : Value) : Value) : Value) : Value), ((((u35 : Value) : Value) : Value) : Value), ((((u36 : Value) : Value) : Value) : Value), ((((u37 : Value) : Value) : Value) : Value), ((((u38 : Value) : Value) : Value) : Value), ((((u39 : Value) : Value) : Value) : Value), ((((u40 : Value) : Value) : Value) : Value), ((((u41 : Value) : Value) : Value) : Value), ((((u42 : Value) : Value) : Value) : Value), ((((u43 : Value) : Value) : Value) : Value), ((((u44 : Value) : Value) : Value) : Value), ((((u45 : Value) : Value) : Value) : Value), ((((u46 : Value) : Value) : Value) : Value)])), (bmt, .inl (g.2 2, 200, .inl z10))]) hD hS hA [0, 1] rfl
    refine va_callv (va_runV (As := [.int e0]) (rest := []) ⟨hx, hb, hml, hown, hg⟩ (c_X9_types l g _ h0 bmt ((((0 + 4) + 4) + 4) + 4) z10 (((((u1 : Value) : Value) : Value) : Value) : Value) (((((u2 : Value) : Value) : Value) : Value) : Value) (((((u3 : Value) : Value) : Value) : Value) : Value) (((((u4 : Value) : Value) : Value) : Value) : Value) (((((u9 : Value) : Value) : Value) : Value) : Value) (((((u10 : Value) : Value) : Value) : Value) : Value) (((((u11 : Value) : Value) : Value) : Value) : Value) (((((u12 : Value) : Value) : Value) : Value) : Value) (((((u13 : Value) : Value) : Value) : Value) : Value) (((((u14 : Value) : Value) : Value) : Value) : Value) (((((u17 : Value) : Value) : Value) : Value) : Value) (((((u18 : Value) : Value) : Value) : Value) : Value) (((((u19 : Value) : Value) : Value) : Value) : Value) (((((u20 : Value) : Value) : Value) : Value) : Value) (((((u21 : Value) : Value) : Value) : Value) : Value) (((((u22 : Value) : Value) : Value) : Value) : Value) (((((u23 : Value) : Value) : Value) : Value) : Value) (((((u24 : Value) : Value) : Value) : Value) : Value) (((((u25 : Value) : Value) : Value) : Value) : Value) (((((u26 : Value) : Value) : Value) : Value) : Value) (((((u27 : Value) : Value) : Value) : Value) : Value) (((((u28 : Value) : Value) : Value) : Value) : Value) (((((u29 : Value) : Value) : Value) : Value) : Value) (((((u30 : Value) : Value) : Value) : Value) : Value) (((((u31 : Value) : Value) : Value) : Value) : Value) (((((u32 : Value) : Value) : Value) : Value) : Value) (((((u33 : Value) : Value) : Value) : Value) : Value) (((((u34 : Value) : Value) : Value) : Value) : Value) (((((u35 : Value) : Value) : Value) : Value) : Value) (((((u36 : Value) : Value) : Value) : Value) : Value) (((((u37 : Value) : Value) : Value) : Value) : Value) (((((u38 : Value) : Value) : Value) : Value) : Value) (((((u39 : Value) : Value) : Value) : Value) : Value) (((((u40 : Value) : Value) : Value) : Value) : Value) (((((u41 : Value) : Value) : Value) : Value) : Value) (((((u42 : Value) : Value) : Value) : Value) : Value) (((((u43 : Value) : Value) : Value) : Value) : Value) (((((u44 : Value) : Value) : Value) : Value) : Value) (((((u45 : Value) : Value) : Value) : Value) : Value) (((((u46 : Value) : Value) : Value) : Value) : Value) e0 (by first | omega | assumption | decide | (rw [nI_toInt] <;> omega))) (cwV 1 hg (z_gV mm_1202 mm_1204 mm_61 mm_117 mm_1205) rfl rfl rfl (by decide +kernel) ⟨Nat.le_of_ble_eq_true rfl, Nat.le_of_ble_eq_true rfl⟩) ⟨(zA.pre [.ref h0, .int e0] hPc hK hDc hN).1, va_recv hK hPc (ci := 9) (q0 := 0) rfl rfl, (zA.pre [.ref h0, .int e0] hPc hK hDc hN).2⟩ rfl rfl hl.1 rfl (lv_room (Nat.le_of_ble_eq_true rfl)) dX9_feed_39 ⟨Nat.le_of_ble_eq_true rfl, Nat.le_of_ble_eq_true rfl⟩) hS (fun q _ h => hFc q h) hFc (fun _ t H1 locs ht hvm hr11 hB hz1 hk1 hS => ?_)
    obtain ⟨z12, hP1, hD1⟩ := hB
    rw [ht] at hP1
    obtain ⟨hP, hD⟩ := va_join (wr := []) (w1 := [(h0, .inr (9, [.int 0, (((((u1 : Value) : Value) : Value) : Value) : Value), (((((u2 : Value) : Value) : Value) : Value) : Value), (((((u3 : Value) : Value) : Value) : Value) : Value), (((((u4 : Value) : Value) : Value) : Value) : Value), .int 0, .int 0, .int 0, .int 0, (((((u9 : Value) : Value) : Value) : Value) : Value), (((((u10 : Value) : Value) : Value) : Value) : Value), (((((u11 : Value) : Value) : Value) : Value) : Value), (((((u12 : Value) : Value) : Value) : Value) : Value), (((((u13 : Value) : Value) : Value) : Value) : Value), (((((u14 : Value) : Value) : Value) : Value) : Value), .ref bmt, .int (nI (((((0 + 4) + 4) + 4) + 4) + 4)), (((((u17 : Value) : Value) : Value) : Value) : Value), (((((u18 : Value) : Value) : Value) : Value) : Value), (((((u19 : Value) : Value) : Value) : Value) : Value), (((((u20 : Value) : Value) : Value) : Value) : Value), (((((u21 : Value) : Value) : Value) : Value) : Value), (((((u22 : Value) : Value) : Value) : Value) : Value), (((((u23 : Value) : Value) : Value) : Value) : Value), (((((u24 : Value) : Value) : Value) : Value) : Value), (((((u25 : Value) : Value) : Value) : Value) : Value), (((((u26 : Value) : Value) : Value) : Value) : Value), (((((u27 : Value) : Value) : Value) : Value) : Value), (((((u28 : Value) : Value) : Value) : Value) : Value), (((((u29 : Value) : Value) : Value) : Value) : Value), (((((u30 : Value) : Value) : Value) : Value) : Value), (((((u31 : Value) : Value) : Value) : Value) : Value), (((((u32 : Value) : Value) : Value) : Value) : Value), (((((u33 : Value) : Value) : Value) : Value) : Value), (((((u34 : Value) : Value) : Value) : Value) : Value), (((((u35 : Value) : Value) : Value) : Value) : Value), (((((u36 : Value) : Value) : Value) : Value) : Value), (((((u37 : Value) : Value) : Value) : Value) : Value), (((((u38 : Value) : Value) : Value) : Value) : Value), (((((u39 : Value) : Value) : Value) : Value) : Value), (((((u40 : Value) : Value) : Value) : Value) : Value), (((((u41 : Value) : Value) : Value) : Value) : Value), (((((u42 : Value) : Value) : Value) : Value) : Value), (((((u43 : Value) : Value) : Value) : Value) : Value), (((((u44 : Value) : Value) : Value) : Value) : Value), (((((u45 : Value) : Value) : Value) : Value) : Value), (((((u46 : Value) : Value) : Value) : Value) : Value)])), (bmt, .inl (g.2 2, 200, .inl z12))]) hP hD [0, 1] [] rfl rfl (by decide) (by decide) hk1 hFc hP1 hD1
    generalize H1 = H at hP hS ⊢
    refine W.widen (k := 0) (n := 0) (Nat.le_of_ble_eq_true rfl) (Nat.le_of_ble_eq_true rfl) ?_
    have hP : zP g [(h0, .inr (9, [.int 0, (((((u1 : Value) : Value) : Value) : Value) : Value), (((((u2 : Value) : Value) : Value) : Value) : Value), (((((u3 : Value) : Value) : Value) : Value) : Value), (((((u4 : Value) : Value) : Value) : Value) : Value), .int 0, .int 0, .int 0, .int 0, (((((u9 : Value) : Value) : Value) : Value) : Value), (((((u10 : Value) : Value) : Value) : Value) : Value), (((((u11 : Value) : Value) : Value) : Value) : Value), (((((u12 : Value) : Value) : Value) : Value) : Value), (((((u13 : Value) : Value) : Value) : Value) : Value), (((((u14 : Value) : Value) : Value) : Value) : Value), .ref bmt, .int (nI (((((0 + 4) + 4) + 4) + 4) + 4)), (((((u17 : Value) : Value) : Value) : Value) : Value), (((((u18 : Value) : Value) : Value) : Value) : Value), (((((u19 : Value) : Value) : Value) : Value) : Value), (((((u20 : Value) : Value) : Value) : Value) : Value), (((((u21 : Value) : Value) : Value) : Value) : Value), (((((u22 : Value) : Value) : Value) : Value) : Value), (((((u23 : Value) : Value) : Value) : Value) : Value), (((((u24 : Value) : Value) : Value) : Value) : Value), (((((u25 : Value) : Value) : Value) : Value) : Value), (((((u26 : Value) : Value) : Value) : Value) : Value), (((((u27 : Value) : Value) : Value) : Value) : Value), (((((u28 : Value) : Value) : Value) : Value) : Value), (((((u29 : Value) : Value) : Value) : Value) : Value), (((((u30 : Value) : Value) : Value) : Value) : Value), (((((u31 : Value) : Value) : Value) : Value) : Value), (((((u32 : Value) : Value) : Value) : Value) : Value), (((((u33 : Value) : Value) : Value) : Value) : Value), (((((u34 : Value) : Value) : Value) : Value) : Value), (((((u35 : Value) : Value) : Value) : Value) : Value), (((((u36 : Value) : Value) : Value) : Value) : Value), (((((u37 : Value) : Value) : Value) : Value) : Value), (((((u38 : Value) : Value) : Value) : Value) : Value), (((((u39 : Value) : Value) : Value) : Value) : Value), (((((u40 : Value) : Value) : Value) : Value) : Value), (((((u41 : Value) : Value) : Value) : Value) : Value), (((((u42 : Value) : Value) : Value) : Value) : Value), (((((u43 : Value) : Value) : Value) : Value) : Value), (((((u44 : Value) : Value) : Value) : Value) : Value), (((((u45 : Value) : Value) : Value) : Value) : Value), (((((u46 : Value) : Value) : Value) : Value) : Value)])), (bmt, .inl (g.2 2, 200, .inl z12))] H := hP
    have hD : va_D A [(h0, .inr (9, [.int 0, (((((u1 : Value) : Value) : Value) : Value) : Value), (((((u2 : Value) : Value) : Value) : Value) : Value), (((((u3 : Value) : Value) : Value) : Value) : Value), (((((u4 : Value) : Value) : Value) : Value) : Value), .int 0, .int 0, .int 0, .int 0, (((((u9 : Value) : Value) : Value) : Value) : Value), (((((u10 : Value) : Value) : Value) : Value) : Value), (((((u11 : Value) : Value) : Value) : Value) : Value), (((((u12 : Value) : Value) : Value) : Value) : Value), (((((u13 : Value) : Value) : Value) : Value) : Value), (((((u14 : Value) : Value) : Value) : Value) : Value), .ref bmt, .int (nI (((((0 + 4) + 4) + 4) + 4) + 4)), (((((u17 : Value) : Value) : Value) : Value) : Value), (((((u18 : Value) : Value) : Value) : Value) : Value), (((((u19 : Value) : Value) : Value) : Value) : Value), (((((u20 : Value) : Value) : Value) : Value) : Value), (((((u21 : Value) : Value) : Value) : Value) : Value), (((((u22 : Value) : Value) : Value) : Value) : Value), (((((u23 : Value) : Value) : Value) : Value) : Value), (((((u24 : Value) : Value) : Value) : Value) : Value), (((((u25 : Value) : Value) : Value) : Value) : Value), (((((u26 : Value) : Value) : Value) : Value) : Value), (((((u27 : Value) : Value) : Value) : Value) : Value), (((((u28 : Value) : Value) : Value) : Value) : Value), (((((u29 : Value) : Value) : Value) : Value) : Value), (((((u30 : Value) : Value) : Value) : Value) : Value), (((((u31 : Value) : Value) : Value) : Value) : Value), (((((u32 : Value) : Value) : Value) : Value) : Value), (((((u33 : Value) : Value) : Value) : Value) : Value), (((((u34 : Value) : Value) : Value) : Value) : Value), (((((u35 : Value) : Value) : Value) : Value) : Value), (((((u36 : Value) : Value) : Value) : Value) : Value), (((((u37 : Value) : Value) : Value) : Value) : Value), (((((u38 : Value) : Value) : Value) : Value) : Value), (((((u39 : Value) : Value) : Value) : Value) : Value), (((((u40 : Value) : Value) : Value) : Value) : Value), (((((u41 : Value) : Value) : Value) : Value) : Value), (((((u42 : Value) : Value) : Value) : Value) : Value), (((((u43 : Value) : Value) : Value) : Value) : Value), (((((u44 : Value) : Value) : Value) : Value) : Value), (((((u45 : Value) : Value) : Value) : Value) : Value), (((((u46 : Value) : Value) : Value) : Value) : Value)])), (bmt, .inl (g.2 2, 200, .inl z12))] := hD
    refine lv_aload_n hx hb dX9_feed_42 rfl (lv_at hl 0 rfl) ?_
    refine va_get (D := g.1) (ci := 9) (v := .int (nI (((((0 + 4) + 4) + 4) + 4) + 4))) (C := RX9) (T := TX9) (N := 47) hx hb hg inG9 hown hK hP 0 rfl rfl 16 (by decide) (hg _ mm_974) (fun _ h9 => h9) rfl dX9_feed_43 ?_
    have hP9 := hP.sub (ws' := []) [] rfl
    have hD9 := hD.sub (ws' := []) [] (by decide) rfl
    refine W.widen (k := 0) (n := 0) (Nat.le_of_ble_eq_true rfl) (Nat.le_of_ble_eq_true rfl) ?_
    exact W.iret (v := (nI (((((0 + 4) + 4) + 4) + 4) + 4))) hx hb hr (fun t ht hW => ⟨⟨(nI (((((0 + 4) + 4) + 4) + 4) + 4)), (), rfl, by decide, ⟨by rw [ht]; exact hP9, hD9⟩⟩, hS.F ht⟩) hS.2.2 dX9_feed_46
  · skip
    exact absurd c2 (by decide)
