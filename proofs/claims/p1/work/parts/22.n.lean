set_option maxHeartbeats 4000000 in
set_option maxRecDepth 100000 in
theorem c_X9_blurs (l : Launch) (g : zG) (h0 : Nat) (bmu : Nat) (mu : Nat → Int32) (u2 : Value) (u3 : Value) (u4 : Value) (u9 : Value) (u10 : Value) (u11 : Value) (u12 : Value) (u13 : Value) (u14 : Value) (u15 : Value) (u17 : Value) (u18 : Value) (u19 : Value) (u20 : Value) (u21 : Value) (u22 : Value) (u23 : Value) (u24 : Value) (u25 : Value) (u26 : Value) (u27 : Value) (u28 : Value) (u29 : Value) (u30 : Value) (u31 : Value) (u32 : Value) (u33 : Value) (u34 : Value) (u35 : Value) (u36 : Value) (u37 : Value) (u38 : Value) (u39 : Value) (u40 : Value) (u41 : Value) (u42 : Value) (u43 : Value) (u44 : Value) (u45 : Value) (u46 : Value) (c0 : Int32) (v : Int32) (n : Int32) (hu : ∀ j, j < 128 → mu j = -1) (hc : 0 ≤ c0.toInt ∧ c0.toInt ≤ 3) (hv : 0 ≤ v.toInt ∧ v.toInt ≤ 15) (hn : 0 ≤ n.toInt ∧ n.toInt ≤ 4) : Met l yX9_blurs (zW yX9_blurs cX9_blurs 6 (some .int)) ({ frames := 0, cells := 0, slots := 0, locals := 0 }) (va_Pc [.ref h0, .int c0, .int v, .int n] (zR g [(h0, .inr (9, [.int 0, .ref bmu, u2, u3, u4, .int 0, .int 0, .int 0, .int 0, u9, u10, u11, u12, u13, u14, u15, .int 0, u17, u18, u19, u20, u21, u22, u23, u24, u25, u26, u27, u28, u29, u30, u31, u32, u33, u34, u35, u36, u37, u38, u39, u40, u41, u42, u43, u44, u45, u46])), (bmu, .inl (g.2 0, 128, .inl mu))])) (vp_Si (fun r : Int32 => (r = v ∧ (n.toInt = 0)) ∨ (r = 32 ∧ (1 ≤ n.toInt)))) 0 0 (fun _ => False) := by
  refine Met.ofW (cc := cX9_blurs) (maxL := 6) (ret := (some .int)) (by decide) rfl ?_
  intro p e s m args below meth c s₁ B hml hv
  obtain ⟨rfl, hP, hK, hN⟩ := hv
  have hx := B.exec
  have hb := B.bytes
  have hr := B.returns
  have hg := zW.law (atoms_spec (ws := (zW yX9_blurs cX9_blurs 6 (some .int))) B.pre)
  have hown : s.vm.findClass RX9 = some m.cls := findClass_of_methodNamed B.named
  have hlocks := B.notSynchronized
  have hl := lv_entry ([.ref h0, .int c0, .int v, .int n]) (n := 6) (Nat.le_of_ble_eq_true rfl)
  rw [lg_entry_eq]
  generalize (lg_sl ([.ref h0, .int c0, .int v, .int n]) ++ List.replicate (6 - (lg_sl ([.ref h0, .int c0, .int v, .int n])).length) Slot.unset).toArray = ls at hl ⊢
  have hl : lv_has ls 6 [(0, .ref h0), (1, .int c0), (2, .int v), (3, .int n)] := hl
  refine lv_iload_n hx hb dX9_blurs_0 rfl (lv_at hl 2 rfl) ?_
  refine lv_istore (lv' := [(4, .int v), (0, .ref h0), (1, .int c0), (2, .int v), (3, .int n)]) hx hb dX9_blurs_1 hl (by decide) rfl (fun ls hl => ?_)
  refine lv_iconst (v := 0) hx hb dX9_blurs_3 (by decide) ?_
  refine lv_istore (lv' := [(5, .int 0), (4, .int v), (0, .ref h0), (1, .int c0), (2, .int v), (3, .int n)]) hx hb dX9_blurs_4 hl (by decide) rfl (fun ls hl => ?_)
  refine lv_iload hx hb dX9_blurs_6 (lv_at hl 0 rfl) ?_
  refine lv_iload_n hx hb dX9_blurs_8 rfl (lv_at hl 5 rfl) ?_
  refine lv_icmp_ge (tgt := 60) hx hb dX9_blurs_9 (by decide) (fun c1 => ?_) (fun c1 => ?_)
  · skip
    have c1 : n.toInt ≤ 0 := (z_le rfl (by decide : (0 : Int32).toInt = 0)).mp c1
    refine lv_iload hx hb dX9_blurs_60 (lv_at hl 1 rfl) ?_
    exact W.iret (v := v) hx hb hr (fun t ht hW => ⟨v, rfl, by first | exact Or.inl ⟨rfl, by omega⟩ | exact Or.inr ⟨rfl, by omega⟩, ht⟩) (fun q hq => by cases hq) dX9_blurs_62
  · skip
    have c1 : ¬ (n.toInt ≤ 0) := fun q => c1 ((z_le rfl (by decide : (0 : Int32).toInt = 0)).mpr q)
    refine lv_iload hx hb dX9_blurs_12 (lv_at hl 1 rfl) ?_
    refine lv_bipush (v := 32) hx hb dX9_blurs_14 (by decide) ?_
    refine lv_icmp_eq (tgt := 60) hx hb dX9_blurs_16 (by decide) (fun c2 => ?_) (fun c2 => ?_)
    · skip
      have c2 : v.toInt = 32 := (z_eq rfl (by decide : (32 : Int32).toInt = 32)).mp c2
      exfalso
      omega
    · skip
      have c2 : ¬ (v.toInt = 32) := fun q => c2 ((z_eq rfl (by decide : (32 : Int32).toInt = 32)).mpr q)
      refine lv_aload_n hx hb dX9_blurs_19 rfl (lv_at hl 2 rfl) ?_
      refine va_get (D := g.1) (ci := 9) (v := .ref bmu) (C := RX9) (T := TX9) (N := 47) hx hb hg inG9 hown hK hP 0 rfl rfl 1 (by decide) (hg _ mm_959) (fun _ h9 => h9) rfl dX9_blurs_20 ?_
      refine lv_bipush (v := 32) hx hb dX9_blurs_23 (by decide) ?_
      refine lv_iload_n hx hb dX9_blurs_25 rfl (lv_at hl 3 rfl) ?_
      refine lv_imul hx hb dX9_blurs_26 ?_
      refine lv_topi (fun x3 ex3 => ?_)
      have tx3 : x3.toInt = 32 * c0.toInt := by rw [ex3]; exact z_mul (by decide : (32 : Int32).toInt = 32) rfl (by omega) (by omega)
      refine lv_iload hx hb dX9_blurs_27 (lv_at hl 1 rfl) ?_
      refine lv_iadd hx hb dX9_blurs_29 ?_
      refine lv_topi (fun x4 ex4 => ?_)
      have tx4 : x4.toInt = x3.toInt + v.toInt := by rw [ex4]; exact z_add rfl rfl (by omega) (by omega)
      refine va_iald hx hb hK hP 1 0 rfl rfl (z_in rfl (by omega) (by omega)) dX9_blurs_30 ?_
      refine lv_topi (fun x5 ex5 => ?_)
      have ex5 : x5 = mu (Int32.toNatClampNeg x4) := ex5.trans (congrArg mu rfl)
      obtain rfl : x5 = (-1) := ex5.trans (hu _ (z_clt rfl (by omega) (by omega)))
      refine lv_iconst (v := (-1)) hx hb dX9_blurs_31 (by decide) ?_
      refine lv_icmp_ne (tgt := 40) hx hb dX9_blurs_32 (by decide) (fun c6 => ?_) (fun c6 => ?_)
      · skip
        exact absurd c6 (by decide)
      · skip
        refine lv_bipush (v := 32) hx hb dX9_blurs_35 (by decide) ?_
        refine lv_goto (tgt := 52) hx hb dX9_blurs_37 (by decide) ?_
        refine lv_istore (lv' := [(4, .int 32), (5, .int 0), (0, .ref h0), (1, .int c0), (2, .int v), (3, .int n)]) hx hb dX9_blurs_52 hl (by decide) rfl (fun ls hl => ?_)
        refine lv_iinc (v := 1) (lv' := [(5, .int 1), (4, .int 32), (0, .ref h0), (1, .int c0), (2, .int v), (3, .int n)]) hx hb dX9_blurs_54 hl (k := 1) rfl (by decide) (by decide) rfl (fun ls hl => ?_)
        refine lv_goto (tgt := 6) hx hb dX9_blurs_57 (by decide) ?_
        refine lv_iload hx hb dX9_blurs_6 (lv_at hl 0 rfl) ?_
        refine lv_iload_n hx hb dX9_blurs_8 rfl (lv_at hl 5 rfl) ?_
        refine lv_icmp_ge (tgt := 60) hx hb dX9_blurs_9 (by decide) (fun c7 => ?_) (fun c7 => ?_)
        · skip
          have c7 : n.toInt ≤ 1 := (z_le rfl (by decide : (1 : Int32).toInt = 1)).mp c7
          refine lv_iload hx hb dX9_blurs_60 (lv_at hl 1 rfl) ?_
          exact W.iret (v := 32) hx hb hr (fun t ht hW => ⟨32, rfl, by first | exact Or.inl ⟨rfl, by omega⟩ | exact Or.inr ⟨rfl, by omega⟩, ht⟩) (fun q hq => by cases hq) dX9_blurs_62
        · skip
          have c7 : ¬ (n.toInt ≤ 1) := fun q => c7 ((z_le rfl (by decide : (1 : Int32).toInt = 1)).mpr q)
          refine lv_iload hx hb dX9_blurs_12 (lv_at hl 1 rfl) ?_
          refine lv_bipush (v := 32) hx hb dX9_blurs_14 (by decide) ?_
          refine lv_icmp_eq (tgt := 60) hx hb dX9_blurs_16 (by decide) (fun c8 => ?_) (fun c8 => ?_)
          · skip
            refine lv_iload hx hb dX9_blurs_60 (lv_at hl 1 rfl) ?_
            exact W.iret (v := 32) hx hb hr (fun t ht hW => ⟨32, rfl, by first | exact Or.inl ⟨rfl, by omega⟩ | exact Or.inr ⟨rfl, by omega⟩, ht⟩) (fun q hq => by cases hq) dX9_blurs_62
          · skip
            exact absurd c8 (by decide)

set_option maxHeartbeats 4000000 in
set_option maxRecDepth 100000 in
theorem c_X9_blurred (l : Launch) (g : zG) (h0 : Nat) (bmu : Nat) (mu : Nat → Int32) (u2 : Value) (u3 : Value) (u4 : Value) (u9 : Value) (u10 : Value) (u11 : Value) (u12 : Value) (u13 : Value) (u14 : Value) (u15 : Value) (u17 : Value) (u18 : Value) (u19 : Value) (u20 : Value) (u21 : Value) (u22 : Value) (u23 : Value) (u24 : Value) (u25 : Value) (u26 : Value) (u27 : Value) (u28 : Value) (u29 : Value) (u30 : Value) (u31 : Value) (u32 : Value) (u33 : Value) (u34 : Value) (u35 : Value) (u36 : Value) (u37 : Value) (u38 : Value) (u39 : Value) (u40 : Value) (u41 : Value) (u42 : Value) (u43 : Value) (u44 : Value) (u45 : Value) (u46 : Value) (c0 : Int32) (v : Int32) (n : Int32) (hu : ∀ j, j < 128 → mu j = -1) : Met l yX9_blurred (zW yX9_blurred cX9_blurred 4 (some .int)) ({ frames := 1, cells := 0, slots := 0, locals := 25 }) (va_Pc [.ref h0, .int c0, .int v, .int n] (zR g [(h0, .inr (9, [.int 0, .ref bmu, u2, u3, u4, .int 0, .int 0, .int 0, .int 0, u9, u10, u11, u12, u13, u14, u15, .int 0, u17, u18, u19, u20, u21, u22, u23, u24, u25, u26, u27, u28, u29, u30, u31, u32, u33, u34, u35, u36, u37, u38, u39, u40, u41, u42, u43, u44, u45, u46])), (bmu, .inl (g.2 0, 128, .inl mu))])) (vp_Si (fun r : Int32 => (r = (-1) ∧ (¬ (0 ≤ c0.toInt ∧ c0.toInt ≤ 3 ∧ (0 ≤ v.toInt ∧ v.toInt ≤ 15) ∧ 0 ≤ n.toInt ∧ n.toInt ≤ 4))) ∨ (r = v ∧ (0 ≤ c0.toInt ∧ c0.toInt ≤ 3 ∧ (0 ≤ v.toInt ∧ v.toInt ≤ 15) ∧ 0 ≤ n.toInt ∧ n.toInt ≤ 4) ∧ (n.toInt = 0)) ∨ (r = 32 ∧ (0 ≤ c0.toInt ∧ c0.toInt ≤ 3 ∧ (0 ≤ v.toInt ∧ v.toInt ≤ 15) ∧ 0 ≤ n.toInt ∧ n.toInt ≤ 4) ∧ (1 ≤ n.toInt)))) 0 0 (fun _ => False) := by
  refine Met.ofW (cc := cX9_blurred) (maxL := 4) (ret := (some .int)) (by decide) rfl ?_
  intro p e s m args below meth c s₁ B hml hv
  obtain ⟨rfl, hP, hK, hN⟩ := hv
  have hx := B.exec
  have hb := B.bytes
  have hr := B.returns
  have hg := zW.law (atoms_spec (ws := (zW yX9_blurred cX9_blurred 4 (some .int))) B.pre)
  have hown : s.vm.findClass RX9 = some m.cls := findClass_of_methodNamed B.named
  have hlocks := B.notSynchronized
  have hl := lv_entry ([.ref h0, .int c0, .int v, .int n]) (n := 4) (Nat.le_of_ble_eq_true rfl)
  rw [lg_entry_eq]
  generalize (lg_sl ([.ref h0, .int c0, .int v, .int n]) ++ List.replicate (4 - (lg_sl ([.ref h0, .int c0, .int v, .int n])).length) Slot.unset).toArray = ls at hl ⊢
  have hl : lv_has ls 4 [(0, .ref h0), (1, .int c0), (2, .int v), (3, .int n)] := hl
  refine lv_iload_n hx hb dX9_blurred_0 rfl (lv_at hl 1 rfl) ?_
  have hPc := hP.sub (ws' := []) [] rfl
  refine zc_i (va_runS (As := [.int c0]) (rest := []) ⟨hx, hb, hml, hown, hg⟩ (c_X9_isColumn l g c0 ) (va_cwS 1 hg (z_gS mm_1106 mm_1107 mm_117 mm_1108) rfl rfl rfl (by decide +kernel) ⟨Nat.le_of_ble_eq_true rfl, Nat.le_of_ble_eq_true rfl⟩) (zR.pre [.int c0] hPc hK hN) rfl rfl hl.1 rfl (lv_room (Nat.le_of_ble_eq_true rfl)) dX9_blurred_1 ⟨Nat.le_of_ble_eq_true rfl, Nat.le_of_ble_eq_true rfl⟩) (fun r1 hr1 => ?_)
  rcases hr1 with hr1 | hr1
  · skip
    obtain ⟨rfl, h2, h3⟩ := hr1
    have h2 : 0 ≤ c0.toInt := h2
    have h3 : c0.toInt ≤ 3 := h3
    refine lv_if_eq (tgt := 36) hx hb dX9_blurred_4 (by decide) (fun c4 => ?_) (fun c4 => ?_)
    · skip
      exact absurd c4 (by decide)
    · skip
      refine lv_iload_n hx hb dX9_blurred_7 rfl (lv_at hl 2 rfl) ?_
      refine lv_iconst (v := 0) hx hb dX9_blurred_8 (by decide) ?_
      refine lv_bipush (v := 15) hx hb dX9_blurred_9 (by decide) ?_
      have hPc := hP.sub (ws' := []) [] rfl
      refine zc_i (va_runS (As := [.int v, .int 0, .int 15]) (rest := []) ⟨hx, hb, hml, hown, hg⟩ (c_X9_in l g v (0 : Int32) (15 : Int32) ) (va_cwS 3 hg (z_gS mm_1109 mm_1110 mm_117 mm_1111) rfl rfl rfl (by decide +kernel) ⟨Nat.le_of_ble_eq_true rfl, Nat.le_of_ble_eq_true rfl⟩) (zR.pre [.int v, .int 0, .int 15] hPc hK hN) rfl rfl hl.1 rfl (lv_room (Nat.le_of_ble_eq_true rfl)) dX9_blurred_11 ⟨Nat.le_of_ble_eq_true rfl, Nat.le_of_ble_eq_true rfl⟩) (fun r5 hr5 => ?_)
      rcases hr5 with hr5 | hr5
      · skip
        obtain ⟨rfl, h6, h7⟩ := hr5
        have h6 : (0 : Int) ≤ v.toInt := h6
        have h7 : v.toInt ≤ (15 : Int) := h7
        refine lv_if_eq (tgt := 36) hx hb dX9_blurred_14 (by decide) (fun c8 => ?_) (fun c8 => ?_)
        · skip
          exact absurd c8 (by decide)
        · skip
          refine lv_iload_n hx hb dX9_blurred_17 rfl (lv_at hl 3 rfl) ?_
          refine lv_iconst (v := 0) hx hb dX9_blurred_18 (by decide) ?_
          refine lv_iconst (v := 4) hx hb dX9_blurred_19 (by decide) ?_
          have hPc := hP.sub (ws' := []) [] rfl
          refine zc_i (va_runS (As := [.int n, .int 0, .int 4]) (rest := []) ⟨hx, hb, hml, hown, hg⟩ (c_X9_in l g n (0 : Int32) (4 : Int32) ) (va_cwS 3 hg (z_gS mm_1109 mm_1110 mm_117 mm_1111) rfl rfl rfl (by decide +kernel) ⟨Nat.le_of_ble_eq_true rfl, Nat.le_of_ble_eq_true rfl⟩) (zR.pre [.int n, .int 0, .int 4] hPc hK hN) rfl rfl hl.1 rfl (lv_room (Nat.le_of_ble_eq_true rfl)) dX9_blurred_20 ⟨Nat.le_of_ble_eq_true rfl, Nat.le_of_ble_eq_true rfl⟩) (fun r9 hr9 => ?_)
          rcases hr9 with hr9 | hr9
          · skip
            obtain ⟨rfl, h10, h11⟩ := hr9
            have h10 : (0 : Int) ≤ n.toInt := h10
            have h11 : n.toInt ≤ (4 : Int) := h11
            refine lv_if_eq (tgt := 36) hx hb dX9_blurred_23 (by decide) (fun c12 => ?_) (fun c12 => ?_)
            · skip
              exact absurd c12 (by decide)
            · skip
              refine lv_aload_n hx hb dX9_blurred_26 rfl (lv_at hl 0 rfl) ?_
              refine lv_iload_n hx hb dX9_blurred_27 rfl (lv_at hl 1 rfl) ?_
              refine lv_iload_n hx hb dX9_blurred_28 rfl (lv_at hl 2 rfl) ?_
              refine lv_iload_n hx hb dX9_blurred_29 rfl (lv_at hl 3 rfl) ?_
              have hPc := hP.sub (ws' := [(h0, .inr (9, [.int 0, .ref bmu, u2, u3, u4, .int 0, .int 0, .int 0, .int 0, u9, u10, u11, u12, u13, u14, u15, .int 0, u17, u18, u19, u20, u21, u22, u23, u24, u25, u26, u27, u28, u29, u30, u31, u32, u33, u34, u35, u36, u37, u38, u39, u40, u41, u42, u43, u44, u45, u46])), (bmu, .inl (g.2 0, 128, .inl mu))]) [0, 1] rfl
              refine zc_i (va_runV (As := [.int c0, .int v, .int n]) (rest := []) ⟨hx, hb, hml, hown, hg⟩ (c_X9_blurs l g h0 bmu mu (u2 : Value) (u3 : Value) (u4 : Value) (u9 : Value) (u10 : Value) (u11 : Value) (u12 : Value) (u13 : Value) (u14 : Value) (u15 : Value) (u17 : Value) (u18 : Value) (u19 : Value) (u20 : Value) (u21 : Value) (u22 : Value) (u23 : Value) (u24 : Value) (u25 : Value) (u26 : Value) (u27 : Value) (u28 : Value) (u29 : Value) (u30 : Value) (u31 : Value) (u32 : Value) (u33 : Value) (u34 : Value) (u35 : Value) (u36 : Value) (u37 : Value) (u38 : Value) (u39 : Value) (u40 : Value) (u41 : Value) (u42 : Value) (u43 : Value) (u44 : Value) (u45 : Value) (u46 : Value) c0 v n (by first | omega | assumption | decide | (rw [nI_toInt] <;> omega)) (by first | omega | assumption | decide | (rw [nI_toInt] <;> omega)) (by first | omega | assumption | decide | (rw [nI_toInt] <;> omega)) (by first | omega | assumption | decide | (rw [nI_toInt] <;> omega))) (cwV 3 hg (z_gV mm_1132 mm_1134 mm_52 mm_117 mm_1135) rfl rfl rfl (by decide +kernel) ⟨Nat.le_of_ble_eq_true rfl, Nat.le_of_ble_eq_true rfl⟩) ⟨(zR.pre [.ref h0, .int c0, .int v, .int n] hPc hK hN).1, va_recv hK hPc (ci := 9) (q0 := 0) rfl rfl, (zR.pre [.ref h0, .int c0, .int v, .int n] hPc hK hN).2⟩ rfl rfl hl.1 rfl (lv_room (Nat.le_of_ble_eq_true rfl)) dX9_blurred_30 ⟨Nat.le_of_ble_eq_true rfl, Nat.le_of_ble_eq_true rfl⟩) (fun r13 hr13 => ?_)
              rcases hr13 with hr13 | hr13
              · skip
                obtain ⟨hqr13, h14⟩ := hr13
                subst r13
                have h14 : n.toInt = 0 := h14
                refine lv_goto (tgt := 37) hx hb dX9_blurred_33 (by decide) ?_
                exact W.iret (v := v) hx hb hr (fun t ht hW => ⟨v, rfl, by first | exact Or.inl ⟨rfl, by omega⟩ | exact Or.inr (Or.inl ⟨rfl, by omega, by omega⟩) | exact Or.inr (Or.inr ⟨rfl, by omega, by omega⟩), ht⟩) (fun q hq => by cases hq) dX9_blurred_37
              · skip
                obtain ⟨rfl, h15⟩ := hr13
                have h15 : 1 ≤ n.toInt := h15
                refine lv_goto (tgt := 37) hx hb dX9_blurred_33 (by decide) ?_
                exact W.iret (v := 32) hx hb hr (fun t ht hW => ⟨32, rfl, by first | exact Or.inl ⟨rfl, by omega⟩ | exact Or.inr (Or.inl ⟨rfl, by omega, by omega⟩) | exact Or.inr (Or.inr ⟨rfl, by omega, by omega⟩), ht⟩) (fun q hq => by cases hq) dX9_blurred_37
          · skip
            obtain ⟨rfl, h16⟩ := hr9
            have h16 : ¬ ((0 : Int) ≤ n.toInt ∧ n.toInt ≤ (4 : Int)) := h16
            refine lv_if_eq (tgt := 36) hx hb dX9_blurred_23 (by decide) (fun c17 => ?_) (fun c17 => ?_)
            · skip
              refine lv_iconst (v := (-1)) hx hb dX9_blurred_36 (by decide) ?_
              exact W.iret (v := (-1)) hx hb hr (fun t ht hW => ⟨(-1), rfl, by first | exact Or.inl ⟨rfl, by omega⟩ | exact Or.inr (Or.inl ⟨rfl, by omega, by omega⟩) | exact Or.inr (Or.inr ⟨rfl, by omega, by omega⟩), ht⟩) (fun q hq => by cases hq) dX9_blurred_37
            · skip
              exact absurd c17 (by decide)
      · skip
        obtain ⟨rfl, h18⟩ := hr5
        have h18 : ¬ ((0 : Int) ≤ v.toInt ∧ v.toInt ≤ (15 : Int)) := h18
        refine lv_if_eq (tgt := 36) hx hb dX9_blurred_14 (by decide) (fun c19 => ?_) (fun c19 => ?_)
        · skip
          refine lv_iconst (v := (-1)) hx hb dX9_blurred_36 (by decide) ?_
          exact W.iret (v := (-1)) hx hb hr (fun t ht hW => ⟨(-1), rfl, by first | exact Or.inl ⟨rfl, by omega⟩ | exact Or.inr (Or.inl ⟨rfl, by omega, by omega⟩) | exact Or.inr (Or.inr ⟨rfl, by omega, by omega⟩), ht⟩) (fun q hq => by cases hq) dX9_blurred_37
        · skip
          exact absurd c19 (by decide)
  · skip
    obtain ⟨rfl, h20⟩ := hr1
    have h20 : ¬ (0 ≤ c0.toInt ∧ c0.toInt ≤ 3) := h20
    refine lv_if_eq (tgt := 36) hx hb dX9_blurred_4 (by decide) (fun c21 => ?_) (fun c21 => ?_)
    · skip
      refine lv_iconst (v := (-1)) hx hb dX9_blurred_36 (by decide) ?_
      exact W.iret (v := (-1)) hx hb hr (fun t ht hW => ⟨(-1), rfl, by first | exact Or.inl ⟨rfl, by omega⟩ | exact Or.inr (Or.inl ⟨rfl, by omega, by omega⟩) | exact Or.inr (Or.inr ⟨rfl, by omega, by omega⟩), ht⟩) (fun q hq => by cases hq) dX9_blurred_37
    · skip
      exact absurd c21 (by decide)

set_option maxHeartbeats 4000000 in
set_option maxRecDepth 100000 in
theorem c_X9_isBelow (l : Launch) (g : zG) (h0 : Nat) (bmu : Nat) (mu : Nat → Int32) (u2 : Value) (u3 : Value) (u4 : Value) (u9 : Value) (u10 : Value) (u11 : Value) (u12 : Value) (u13 : Value) (u14 : Value) (u15 : Value) (u17 : Value) (u18 : Value) (u19 : Value) (u20 : Value) (u21 : Value) (u22 : Value) (u23 : Value) (u24 : Value) (u25 : Value) (u26 : Value) (u27 : Value) (u28 : Value) (u29 : Value) (u30 : Value) (u31 : Value) (u32 : Value) (u33 : Value) (u34 : Value) (u35 : Value) (u36 : Value) (u37 : Value) (u38 : Value) (u39 : Value) (u40 : Value) (u41 : Value) (u42 : Value) (u43 : Value) (u44 : Value) (u45 : Value) (u46 : Value) (c0 : Int32) (v : Int32) (nd : Int32) (hu : ∀ j, j < 128 → mu j = -1) (hc : 0 ≤ c0.toInt ∧ c0.toInt ≤ 3) (hv : 0 ≤ v.toInt ∧ v.toInt ≤ 15) (hnd : 0 ≤ nd.toInt ∧ nd.toInt ≤ 32) : Met l yX9_isBelow (zW yX9_isBelow cX9_isBelow 5 (some .boolean)) ({ frames := 0, cells := 0, slots := 0, locals := 0 }) (va_Pc [.ref h0, .int c0, .int v, .int nd] (zR g [(h0, .inr (9, [.int 0, .ref bmu, u2, u3, u4, .int 0, .int 0, .int 0, .int 0, u9, u10, u11, u12, u13, u14, u15, .int 0, u17, u18, u19, u20, u21, u22, u23, u24, u25, u26, u27, u28, u29, u30, u31, u32, u33, u34, u35, u36, u37, u38, u39, u40, u41, u42, u43, u44, u45, u46])), (bmu, .inl (g.2 0, 128, .inl mu))])) (vp_Si (fun r : Int32 => (r = 1 ∧ (nd.toInt = 32 ∨ v.toInt = nd.toInt)) ∨ (r = 0 ∧ (¬ (nd.toInt = 32 ∨ v.toInt = nd.toInt))))) 0 0 (fun _ => False) := by
  refine Met.ofW (cc := cX9_isBelow) (maxL := 5) (ret := (some .boolean)) (by decide) rfl ?_
  intro p e s m args below meth c s₁ B hml hv
  obtain ⟨rfl, hP, hK, hN⟩ := hv
  have hx := B.exec
  have hb := B.bytes
  have hr := B.returns
  have hg := zW.law (atoms_spec (ws := (zW yX9_isBelow cX9_isBelow 5 (some .boolean))) B.pre)
  have hown : s.vm.findClass RX9 = some m.cls := findClass_of_methodNamed B.named
  have hlocks := B.notSynchronized
  have hl := lv_entry ([.ref h0, .int c0, .int v, .int nd]) (n := 5) (Nat.le_of_ble_eq_true rfl)
  rw [lg_entry_eq]
  generalize (lg_sl ([.ref h0, .int c0, .int v, .int nd]) ++ List.replicate (5 - (lg_sl ([.ref h0, .int c0, .int v, .int nd])).length) Slot.unset).toArray = ls at hl ⊢
  have hl : lv_has ls 5 [(0, .ref h0), (1, .int c0), (2, .int v), (3, .int nd)] := hl
  refine lv_iload_n hx hb dX9_isBelow_0 rfl (lv_at hl 3 rfl) ?_
  refine lv_bipush (v := 32) hx hb dX9_isBelow_1 (by decide) ?_
  refine lv_icmp_ne (tgt := 8) hx hb dX9_isBelow_3 (by decide) (fun c1 => ?_) (fun c1 => ?_)
  · skip
    have c1 : ¬ (nd.toInt = 32) := fun q => c1 ((z_eq rfl (by decide : (32 : Int32).toInt = 32)).mpr q)
    refine lv_iload_n hx hb dX9_isBelow_8 rfl (lv_at hl 2 rfl) ?_
    refine lv_istore (lv' := [(4, .int v), (0, .ref h0), (1, .int c0), (2, .int v), (3, .int nd)]) hx hb dX9_isBelow_9 hl (by decide) rfl (fun ls hl => ?_)
    refine lv_iload hx hb dX9_isBelow_11 (lv_at hl 0 rfl) ?_
    refine lv_iconst (v := (-1)) hx hb dX9_isBelow_13 (by decide) ?_
    refine lv_icmp_eq (tgt := 40) hx hb dX9_isBelow_14 (by decide) (fun c2 => ?_) (fun c2 => ?_)
    · skip
      have c2 : v.toInt = (-1) := (z_eq rfl (by decide : ((-1) : Int32).toInt = (-1))).mp c2
      exfalso
      omega
    · skip
      have c2 : ¬ (v.toInt = (-1)) := fun q => c2 ((z_eq rfl (by decide : ((-1) : Int32).toInt = (-1))).mpr q)
      refine lv_iload hx hb dX9_isBelow_17 (lv_at hl 0 rfl) ?_
      refine lv_iload_n hx hb dX9_isBelow_19 rfl (lv_at hl 4 rfl) ?_
      refine lv_icmp_eq (tgt := 40) hx hb dX9_isBelow_20 (by decide) (fun c3 => ?_) (fun c3 => ?_)
      · skip
        have c3 : v.toInt = nd.toInt := (z_eq rfl rfl).mp c3
        refine lv_iload hx hb dX9_isBelow_40 (lv_at hl 0 rfl) ?_
        refine lv_iload_n hx hb dX9_isBelow_42 rfl (lv_at hl 4 rfl) ?_
        refine lv_icmp_ne (tgt := 50) hx hb dX9_isBelow_43 (by decide) (fun c4 => ?_) (fun c4 => ?_)
        · skip
          have c4 : ¬ (v.toInt = nd.toInt) := fun q => c4 ((z_eq rfl rfl).mpr q)
          refine lv_iconst (v := 0) hx hb dX9_isBelow_50 (by decide) ?_
          exact W.zret (v := 0) hx hb hr rfl (fun t ht hW => ⟨0, rfl, by first | exact Or.inl ⟨rfl, by omega⟩ | exact Or.inr ⟨rfl, by omega⟩, ht⟩) (fun q hq => by cases hq) dX9_isBelow_51
        · skip
          have c4 : v.toInt = nd.toInt := (z_eq rfl rfl).mp c4
          refine lv_iconst (v := 1) hx hb dX9_isBelow_46 (by decide) ?_
          refine lv_goto (tgt := 51) hx hb dX9_isBelow_47 (by decide) ?_
          exact W.zret (v := 1) hx hb hr rfl (fun t ht hW => ⟨1, rfl, by first | exact Or.inl ⟨rfl, by omega⟩ | exact Or.inr ⟨rfl, by omega⟩, ht⟩) (fun q hq => by cases hq) dX9_isBelow_51
      · skip
        have c3 : ¬ (v.toInt = nd.toInt) := fun q => c3 ((z_eq rfl rfl).mpr q)
        refine lv_aload_n hx hb dX9_isBelow_23 rfl (lv_at hl 1 rfl) ?_
        refine va_get (D := g.1) (ci := 9) (v := .ref bmu) (C := RX9) (T := TX9) (N := 47) hx hb hg inG9 hown hK hP 0 rfl rfl 1 (by decide) (hg _ mm_959) (fun _ h9 => h9) rfl dX9_isBelow_24 ?_
        refine lv_bipush (v := 32) hx hb dX9_isBelow_27 (by decide) ?_
        refine lv_iload_n hx hb dX9_isBelow_29 rfl (lv_at hl 2 rfl) ?_
        refine lv_imul hx hb dX9_isBelow_30 ?_
        refine lv_topi (fun x5 ex5 => ?_)
        have tx5 : x5.toInt = 32 * c0.toInt := by rw [ex5]; exact z_mul (by decide : (32 : Int32).toInt = 32) rfl (by omega) (by omega)
        refine lv_iload hx hb dX9_isBelow_31 (lv_at hl 0 rfl) ?_
        refine lv_iadd hx hb dX9_isBelow_33 ?_
        refine lv_topi (fun x6 ex6 => ?_)
        have tx6 : x6.toInt = x5.toInt + v.toInt := by rw [ex6]; exact z_add rfl rfl (by omega) (by omega)
        refine va_iald hx hb hK hP 1 0 rfl rfl (z_in rfl (by omega) (by omega)) dX9_isBelow_34 ?_
        refine lv_topi (fun x7 ex7 => ?_)
        have ex7 : x7 = mu (Int32.toNatClampNeg x6) := ex7.trans (congrArg mu rfl)
        obtain rfl : x7 = (-1) := ex7.trans (hu _ (z_clt rfl (by omega) (by omega)))
        refine lv_istore (lv' := [(4, .int (-1)), (0, .ref h0), (1, .int c0), (2, .int v), (3, .int nd)]) hx hb dX9_isBelow_35 hl (by decide) rfl (fun ls hl => ?_)
        refine lv_goto (tgt := 11) hx hb dX9_isBelow_37 (by decide) ?_
        refine lv_iload hx hb dX9_isBelow_11 (lv_at hl 0 rfl) ?_
        refine lv_iconst (v := (-1)) hx hb dX9_isBelow_13 (by decide) ?_
        refine lv_icmp_eq (tgt := 40) hx hb dX9_isBelow_14 (by decide) (fun c8 => ?_) (fun c8 => ?_)
        · skip
          refine lv_iload hx hb dX9_isBelow_40 (lv_at hl 0 rfl) ?_
          refine lv_iload_n hx hb dX9_isBelow_42 rfl (lv_at hl 4 rfl) ?_
          refine lv_icmp_ne (tgt := 50) hx hb dX9_isBelow_43 (by decide) (fun c9 => ?_) (fun c9 => ?_)
          · skip
            have c9 : ¬ ((-1) = nd.toInt) := fun q => c9 ((z_eq (by decide : ((-1) : Int32).toInt = (-1)) rfl).mpr q)
            refine lv_iconst (v := 0) hx hb dX9_isBelow_50 (by decide) ?_
            exact W.zret (v := 0) hx hb hr rfl (fun t ht hW => ⟨0, rfl, by first | exact Or.inl ⟨rfl, by omega⟩ | exact Or.inr ⟨rfl, by omega⟩, ht⟩) (fun q hq => by cases hq) dX9_isBelow_51
          · skip
            have c9 : (-1) = nd.toInt := (z_eq (by decide : ((-1) : Int32).toInt = (-1)) rfl).mp c9
            exfalso
            omega
        · skip
          exact absurd c8 (by decide)
  · skip
    have c1 : nd.toInt = 32 := (z_eq rfl (by decide : (32 : Int32).toInt = 32)).mp c1
    refine lv_iconst (v := 1) hx hb dX9_isBelow_6 (by decide) ?_
    exact W.zret (v := 1) hx hb hr rfl (fun t ht hW => ⟨1, rfl, by first | exact Or.inl ⟨rfl, by omega⟩ | exact Or.inr ⟨rfl, by omega⟩, ht⟩) (fun q hq => by cases hq) dX9_isBelow_7

set_option maxHeartbeats 4000000 in
set_option maxRecDepth 100000 in
theorem c_X9_sizeOf (l : Launch) (g : zG) (h0 : Nat) (bmu : Nat) (mu : Nat → Int32) (u2 : Value) (u3 : Value) (u4 : Value) (u9 : Value) (u10 : Value) (u11 : Value) (u12 : Value) (u13 : Value) (u14 : Value) (u15 : Value) (u17 : Value) (u18 : Value) (u19 : Value) (u20 : Value) (u21 : Value) (u22 : Value) (u23 : Value) (u24 : Value) (u25 : Value) (u26 : Value) (u27 : Value) (u28 : Value) (u29 : Value) (u30 : Value) (u31 : Value) (u32 : Value) (u33 : Value) (u34 : Value) (u35 : Value) (u36 : Value) (u37 : Value) (u38 : Value) (u39 : Value) (u40 : Value) (u41 : Value) (u42 : Value) (u43 : Value) (u44 : Value) (u45 : Value) (u46 : Value) (c0 : Int32) (nd : Int32) (hu : ∀ j, j < 128 → mu j = -1) (hc : 0 ≤ c0.toInt ∧ c0.toInt ≤ 3) (hnd : 0 ≤ nd.toInt ∧ nd.toInt ≤ 32) : Met l yX9_sizeOf (zW yX9_sizeOf cX9_sizeOf 5 (some .int)) ({ frames := 1, cells := 0, slots := 0, locals := 24 }) (va_Pc [.ref h0, .int c0, .int nd] (zR g [(h0, .inr (9, [.int 0, .ref bmu, u2, u3, u4, .int 0, .int 0, .int 0, .int 0, u9, u10, u11, u12, u13, u14, u15, .int 0, u17, u18, u19, u20, u21, u22, u23, u24, u25, u26, u27, u28, u29, u30, u31, u32, u33, u34, u35, u36, u37, u38, u39, u40, u41, u42, u43, u44, u45, u46])), (bmu, .inl (g.2 0, 128, .inl mu))])) (vp_Si (fun r : Int32 => (r = 1 ∧ (nd.toInt < 16)) ∨ (r = 0 ∧ (16 ≤ nd.toInt) ∧ (nd.toInt < 32)) ∨ (r = 16 ∧ (nd.toInt = 32)))) 0 0 (fun _ => False) := by
  refine Met.ofW (cc := cX9_sizeOf) (maxL := 5) (ret := (some .int)) (by decide) rfl ?_
  intro p e s m args below meth c s₁ B hml hv
  obtain ⟨rfl, hP, hK, hN⟩ := hv
  have hx := B.exec
  have hb := B.bytes
  have hr := B.returns
  have hg := zW.law (atoms_spec (ws := (zW yX9_sizeOf cX9_sizeOf 5 (some .int))) B.pre)
  have hown : s.vm.findClass RX9 = some m.cls := findClass_of_methodNamed B.named
  have hlocks := B.notSynchronized
  have hl := lv_entry ([.ref h0, .int c0, .int nd]) (n := 5) (Nat.le_of_ble_eq_true rfl)
  rw [lg_entry_eq]
  generalize (lg_sl ([.ref h0, .int c0, .int nd]) ++ List.replicate (5 - (lg_sl ([.ref h0, .int c0, .int nd])).length) Slot.unset).toArray = ls at hl ⊢
  have hl : lv_has ls 5 [(0, .ref h0), (1, .int c0), (2, .int nd)] := hl
  refine lv_iconst (v := 0) hx hb dX9_sizeOf_0 (by decide) ?_
  refine lv_istore_n (lv' := [(3, .int 0), (0, .ref h0), (1, .int c0), (2, .int nd)]) hx hb dX9_sizeOf_1 rfl hl (by decide) rfl (fun ls hl => ?_)
  refine lv_iconst (v := 0) hx hb dX9_sizeOf_2 (by decide) ?_
  refine lv_istore (lv' := [(4, .int 0), (3, .int 0), (0, .ref h0), (1, .int c0), (2, .int nd)]) hx hb dX9_sizeOf_3 hl (by decide) rfl (fun ls hl => ?_)
  have loop5 : ∀ (n : Nat) (v : Nat) (nn : Int32) (ls : Array Slot), (16 - v < n) → (v ≤ 16) → ((nd.toInt = 32 ∧ nn.toInt = v) ∨ (nd.toInt < 32 ∧ nd.toInt < v ∧ nn.toInt = 1) ∨ (nd.toInt < 32 ∧ v ≤ nd.toInt ∧ nn.toInt = 0)) → lv_has ls 5 [(4, .int (nI v)), (3, .int nn), (0, .ref h0), (1, .int c0), (2, .int nd)] → W p l e (headSpec (zW yX9_sizeOf cX9_sizeOf 5 (some .int)) ({ frames := 1, cells := 0, slots := 0, locals := 24 })).room s m ([.ref h0, .int c0, .int nd] : List Value).toArray below meth c s.heap [] 0 0 (MQ below (vp_Si (fun r : Int32 => (r = 1 ∧ (nd.toInt < 16)) ∨ (r = 0 ∧ (16 ≤ nd.toInt) ∧ (nd.toInt < 32)) ∨ (r = 16 ∧ (nd.toInt = 32)))) ([.ref h0, .int c0, .int nd] : List Value).toArray s 0 0 (fun _ => False)) (F0 m 5 ls []) := by
    intro n
    induction n with
    | zero =>
      intro v nn ls hn hv hnn hl
      exact absurd hn (Nat.not_lt_zero _)
    | succ n ih =>
      intro v nn ls hn hv hnn hl
      refine lv_iload hx hb dX9_sizeOf_5 (lv_at hl 0 rfl) ?_
      refine lv_bipush (v := 16) hx hb dX9_sizeOf_7 (by decide) ?_
      refine lv_icmp_ge (tgt := 37) hx hb dX9_sizeOf_9 (by decide) (fun c1 => ?_) (fun c1 => ?_)
      · skip
        have c1 : 16 ≤ ((v : Nat) : Int) := (z_le (by decide : (16 : Int32).toInt = 16) (nI_toInt (by omega))).mp c1
        refine lv_iload_n hx hb dX9_sizeOf_37 rfl (lv_at hl 1 rfl) ?_
        exact W.iret (v := nn) hx hb hr (fun t ht hW => ⟨nn, rfl, by rcases hnn with q | q | q <;> first | exact Or.inl ⟨(z_eq (x := nn) rfl (by decide : (1 : Int32).toInt = 1)).mpr (by omega), by omega⟩ | exact Or.inr (Or.inl ⟨(z_eq (x := nn) rfl (by decide : (0 : Int32).toInt = 0)).mpr (by omega), by omega, by omega⟩) | exact Or.inr (Or.inr ⟨(z_eq (x := nn) rfl (by decide : (16 : Int32).toInt = 16)).mpr (by omega), by omega⟩), ht⟩) (fun q hq => by cases hq) dX9_sizeOf_38
      · skip
        have c1 : ¬ (16 ≤ ((v : Nat) : Int)) := fun q => c1 ((z_le (by decide : (16 : Int32).toInt = 16) (nI_toInt (by omega))).mpr q)
        refine lv_iload_n hx hb dX9_sizeOf_12 rfl (lv_at hl 1 rfl) ?_
        refine lv_aload_n hx hb dX9_sizeOf_13 rfl (lv_at hl 2 rfl) ?_
        refine lv_iload_n hx hb dX9_sizeOf_14 rfl (lv_at hl 3 rfl) ?_
        refine lv_iload hx hb dX9_sizeOf_15 (lv_at hl 0 rfl) ?_
        refine lv_iload_n hx hb dX9_sizeOf_17 rfl (lv_at hl 4 rfl) ?_
        have hPc := hP.sub (ws' := [(h0, .inr (9, [.int 0, .ref bmu, u2, u3, u4, .int 0, .int 0, .int 0, .int 0, u9, u10, u11, u12, u13, u14, u15, .int 0, u17, u18, u19, u20, u21, u22, u23, u24, u25, u26, u27, u28, u29, u30, u31, u32, u33, u34, u35, u36, u37, u38, u39, u40, u41, u42, u43, u44, u45, u46])), (bmu, .inl (g.2 0, 128, .inl mu))]) [0, 1] rfl
        refine zc_i (va_runV (As := [.int c0, .int (nI v), .int nd]) (rest := [.int nn]) ⟨hx, hb, hml, hown, hg⟩ (c_X9_isBelow l g h0 bmu mu (u2 : Value) (u3 : Value) (u4 : Value) (u9 : Value) (u10 : Value) (u11 : Value) (u12 : Value) (u13 : Value) (u14 : Value) (u15 : Value) (u17 : Value) (u18 : Value) (u19 : Value) (u20 : Value) (u21 : Value) (u22 : Value) (u23 : Value) (u24 : Value) (u25 : Value) (u26 : Value) (u27 : Value) (u28 : Value) (u29 : Value) (u30 : Value) (u31 : Value) (u32 : Value) (u33 : Value) (u34 : Value) (u35 : Value) (u36 : Value) (u37 : Value) (u38 : Value) (u39 : Value) (u40 : Value) (u41 : Value) (u42 : Value) (u43 : Value) (u44 : Value) (u45 : Value) (u46 : Value) c0 (nI v) nd (by first | omega | assumption | decide | (rw [nI_toInt] <;> omega)) (by first | omega | assumption | decide | (rw [nI_toInt] <;> omega)) (by first | omega | assumption | decide | (rw [nI_toInt] <;> omega)) (by first | omega | assumption | decide | (rw [nI_toInt] <;> omega))) (cwV 3 hg (z_gV mm_1144 mm_1146 mm_54 mm_117 mm_1147) rfl rfl rfl (by decide +kernel) ⟨Nat.le_of_ble_eq_true rfl, Nat.le_of_ble_eq_true rfl⟩) ⟨(zR.pre [.ref h0, .int c0, .int (nI v), .int nd] hPc hK hN).1, va_recv hK hPc (ci := 9) (q0 := 0) rfl rfl, (zR.pre [.ref h0, .int c0, .int (nI v), .int nd] hPc hK hN).2⟩ rfl rfl hl.1 rfl (lv_room (Nat.le_of_ble_eq_true rfl)) dX9_sizeOf_18 ⟨Nat.le_of_ble_eq_true rfl, Nat.le_of_ble_eq_true rfl⟩) (fun r2 hr2 => ?_)
        rcases hr2 with hr2 | hr2
        · skip
          obtain ⟨rfl, h3⟩ := hr2
          have h3 : nd.toInt = 32 ∨ (nI v).toInt = nd.toInt := h3
          rw [nI_toInt (show v < 2 ^ 31 by omega)] at h3
          refine lv_if_eq (tgt := 28) hx hb dX9_sizeOf_21 (by decide) (fun c4 => ?_) (fun c4 => ?_)
          · skip
            exact absurd c4 (by decide)
          · skip
            refine lv_iconst (v := 1) hx hb dX9_sizeOf_24 (by decide) ?_
            refine lv_goto (tgt := 29) hx hb dX9_sizeOf_25 (by decide) ?_
            refine lv_iadd hx hb dX9_sizeOf_29 ?_
            refine lv_topi (fun x5 ex5 => ?_)
            have tx5 : x5.toInt = nn.toInt + 1 := by rw [ex5]; exact z_add rfl (by decide : (1 : Int32).toInt = 1) (by omega) (by omega)
            refine lv_istore_n (lv' := [(3, .int x5), (4, .int (nI v)), (0, .ref h0), (1, .int c0), (2, .int nd)]) hx hb dX9_sizeOf_30 rfl hl (by decide) rfl (fun ls hl => ?_)
            refine lv_iinc (v := (nI (v + 1))) (lv' := [(4, .int (nI (v + 1))), (3, .int x5), (0, .ref h0), (1, .int c0), (2, .int nd)]) hx hb dX9_sizeOf_31 hl (k := 1) rfl (nI_1 v) (by decide) rfl (fun ls hl => ?_)
            refine lv_goto (tgt := 5) hx hb dX9_sizeOf_34 (by decide) ?_
            exact ih (v + 1) x5  ls (by omega) (by omega) (by omega) (lv_sub hl [0, 1, 2, 3, 4] rfl)
        · skip
          obtain ⟨rfl, h6⟩ := hr2
          have h6 : ¬ (nd.toInt = 32 ∨ (nI v).toInt = nd.toInt) := h6
          rw [nI_toInt (show v < 2 ^ 31 by omega)] at h6
          refine lv_if_eq (tgt := 28) hx hb dX9_sizeOf_21 (by decide) (fun c7 => ?_) (fun c7 => ?_)
          · skip
            refine lv_iconst (v := 0) hx hb dX9_sizeOf_28 (by decide) ?_
            refine lv_iadd hx hb dX9_sizeOf_29 ?_
            refine lv_topi (fun x8 ex8 => ?_)
            have tx8 : x8.toInt = nn.toInt + 0 := by rw [ex8]; exact z_add rfl (by decide : (0 : Int32).toInt = 0) (by omega) (by omega)
            refine lv_istore_n (lv' := [(3, .int x8), (4, .int (nI v)), (0, .ref h0), (1, .int c0), (2, .int nd)]) hx hb dX9_sizeOf_30 rfl hl (by decide) rfl (fun ls hl => ?_)
            refine lv_iinc (v := (nI (v + 1))) (lv' := [(4, .int (nI (v + 1))), (3, .int x8), (0, .ref h0), (1, .int c0), (2, .int nd)]) hx hb dX9_sizeOf_31 hl (k := 1) rfl (nI_1 v) (by decide) rfl (fun ls hl => ?_)
            refine lv_goto (tgt := 5) hx hb dX9_sizeOf_34 (by decide) ?_
            exact ih (v + 1) x8  ls (by omega) (by omega) (by omega) (lv_sub hl [0, 1, 2, 3, 4] rfl)
          · skip
            exact absurd c7 (by decide)
  exact loop5 (16 - 0 + 1) 0 0  ls (by omega) (by omega) (by first | omega | (show (nd.toInt = 32 ∧ (0 : Int) = ((0 : Nat) : Int)) ∨ (nd.toInt < 32 ∧ nd.toInt < ((0 : Nat) : Int) ∧ (0 : Int) = 1) ∨ (nd.toInt < 32 ∧ ((0 : Nat) : Int) ≤ nd.toInt ∧ (0 : Int) = 0); omega)) (lv_sub hl [0, 1, 2, 3, 4] rfl)

set_option maxHeartbeats 4000000 in
set_option maxRecDepth 100000 in
theorem c_X9_count (l : Launch) (g : zG) (h0 : Nat) (u1 : Value) (bmw : Nat) (mw : Nat → Int32) (u3 : Value) (u4 : Value) (u9 : Value) (u10 : Value) (u11 : Value) (u12 : Value) (u13 : Value) (u14 : Value) (u15 : Value) (u17 : Value) (u18 : Value) (u19 : Value) (u20 : Value) (u21 : Value) (u22 : Value) (u23 : Value) (u24 : Value) (u25 : Value) (u26 : Value) (u27 : Value) (u28 : Value) (u29 : Value) (u30 : Value) (u31 : Value) (u32 : Value) (u33 : Value) (u34 : Value) (u35 : Value) (u36 : Value) (u37 : Value) (u38 : Value) (u39 : Value) (u40 : Value) (u41 : Value) (u42 : Value) (u43 : Value) (u44 : Value) (u45 : Value) (u46 : Value) (wh : Int32) (hw1 : ∀ j, j < 4 → mw j = 1) : Met l yX9_count (zW yX9_count cX9_count 2 (some .int)) ({ frames := 1, cells := 0, slots := 0, locals := 22 }) (va_Pc [.ref h0, .int wh] (zR g [(h0, .inr (9, [.int 0, u1, .ref bmw, u3, u4, .int 0, .int 0, .int 0, .int 0, u9, u10, u11, u12, u13, u14, u15, .int 0, u17, u18, u19, u20, u21, u22, u23, u24, u25, u26, u27, u28, u29, u30, u31, u32, u33, u34, u35, u36, u37, u38, u39, u40, u41, u42, u43, u44, u45, u46])), (bmw, .inl (g.2 0, 4, .inl mw))])) (vp_Si (fun r : Int32 => (r = 0 ∧ ((0 ≤ wh.toInt ∧ wh.toInt ≤ 5))) ∨ (r = 1 ∧ ((20 ≤ wh.toInt ∧ wh.toInt ≤ 23))) ∨ (r = (-1) ∧ (¬ (0 ≤ wh.toInt ∧ wh.toInt ≤ 5)) ∧ (¬ (20 ≤ wh.toInt ∧ wh.toInt ≤ 23))))) 0 0 (fun _ => False) := by
  refine Met.ofW (cc := cX9_count) (maxL := 2) (ret := (some .int)) (by decide) rfl ?_
  intro p e s m args below meth c s₁ B hml hv
  obtain ⟨rfl, hP, hK, hN⟩ := hv
  have hx := B.exec
  have hb := B.bytes
  have hr := B.returns
  have hg := zW.law (atoms_spec (ws := (zW yX9_count cX9_count 2 (some .int))) B.pre)
  have hown : s.vm.findClass RX9 = some m.cls := findClass_of_methodNamed B.named
  have hlocks := B.notSynchronized
  have hl := lv_entry ([.ref h0, .int wh]) (n := 2) (Nat.le_of_ble_eq_true rfl)
  rw [lg_entry_eq]
  generalize (lg_sl ([.ref h0, .int wh]) ++ List.replicate (2 - (lg_sl ([.ref h0, .int wh])).length) Slot.unset).toArray = ls at hl ⊢
  have hl : lv_has ls 2 [(0, .ref h0), (1, .int wh)] := hl
  refine lv_iload_n hx hb dX9_count_0 rfl (lv_at hl 1 rfl) ?_
  rcases z_w6 wh with hw | hw | hw | hw | hw | hw | hw
  · skip
    have qw : wh.toInt = 0 := by rw [hw]; rfl
    refine lv_tableIn (tgt := 40) (off := 39) hx hb dX9_count_1 (by omega) (by omega) (by rw [qw]; rfl) (by decide) ?_
    refine lv_aload_n hx hb dX9_count_40 rfl (lv_at hl 0 rfl) ?_
    refine va_get (D := g.1) (ci := 9) (v := .int 0) (C := RX9) (T := TX9) (N := 47) hx hb hg inG9 hown hK hP 0 rfl rfl 0 (by decide) (hg _ mm_958) (fun _ h9 => h9) rfl dX9_count_41 ?_
    exact W.iret (v := 0) hx hb hr (fun t ht hW => ⟨0, rfl, by first | exact Or.inl ⟨rfl, by omega⟩ | exact Or.inr (Or.inl ⟨rfl, by omega⟩) | exact Or.inr (Or.inl ⟨by assumption, by omega⟩) | exact Or.inr (Or.inr ⟨rfl, by omega, by omega⟩), ht⟩) (fun q hq => by cases hq) dX9_count_44
  · skip
    have qw : wh.toInt = 1 := by rw [hw]; rfl
    refine lv_tableIn (tgt := 45) (off := 44) hx hb dX9_count_1 (by omega) (by omega) (by rw [qw]; rfl) (by decide) ?_
    refine lv_aload_n hx hb dX9_count_45 rfl (lv_at hl 0 rfl) ?_
    refine va_get (D := g.1) (ci := 9) (v := .int 0) (C := RX9) (T := TX9) (N := 47) hx hb hg inG9 hown hK hP 0 rfl rfl 5 (by decide) (hg _ mm_963) (fun _ h9 => h9) rfl dX9_count_46 ?_
    exact W.iret (v := 0) hx hb hr (fun t ht hW => ⟨0, rfl, by first | exact Or.inl ⟨rfl, by omega⟩ | exact Or.inr (Or.inl ⟨rfl, by omega⟩) | exact Or.inr (Or.inl ⟨by assumption, by omega⟩) | exact Or.inr (Or.inr ⟨rfl, by omega, by omega⟩), ht⟩) (fun q hq => by cases hq) dX9_count_49
  · skip
    have qw : wh.toInt = 2 := by rw [hw]; rfl
    refine lv_tableIn (tgt := 50) (off := 49) hx hb dX9_count_1 (by omega) (by omega) (by rw [qw]; rfl) (by decide) ?_
    refine lv_aload_n hx hb dX9_count_50 rfl (lv_at hl 0 rfl) ?_
    refine va_get (D := g.1) (ci := 9) (v := .int 0) (C := RX9) (T := TX9) (N := 47) hx hb hg inG9 hown hK hP 0 rfl rfl 6 (by decide) (hg _ mm_964) (fun _ h9 => h9) rfl dX9_count_51 ?_
    exact W.iret (v := 0) hx hb hr (fun t ht hW => ⟨0, rfl, by first | exact Or.inl ⟨rfl, by omega⟩ | exact Or.inr (Or.inl ⟨rfl, by omega⟩) | exact Or.inr (Or.inl ⟨by assumption, by omega⟩) | exact Or.inr (Or.inr ⟨rfl, by omega, by omega⟩), ht⟩) (fun q hq => by cases hq) dX9_count_54
  · skip
    have qw : wh.toInt = 3 := by rw [hw]; rfl
    refine lv_tableIn (tgt := 55) (off := 54) hx hb dX9_count_1 (by omega) (by omega) (by rw [qw]; rfl) (by decide) ?_
    refine lv_aload_n hx hb dX9_count_55 rfl (lv_at hl 0 rfl) ?_
    refine va_get (D := g.1) (ci := 9) (v := .int 0) (C := RX9) (T := TX9) (N := 47) hx hb hg inG9 hown hK hP 0 rfl rfl 7 (by decide) (hg _ mm_965) (fun _ h9 => h9) rfl dX9_count_56 ?_
    exact W.iret (v := 0) hx hb hr (fun t ht hW => ⟨0, rfl, by first | exact Or.inl ⟨rfl, by omega⟩ | exact Or.inr (Or.inl ⟨rfl, by omega⟩) | exact Or.inr (Or.inl ⟨by assumption, by omega⟩) | exact Or.inr (Or.inr ⟨rfl, by omega, by omega⟩), ht⟩) (fun q hq => by cases hq) dX9_count_59
  · skip
    have qw : wh.toInt = 4 := by rw [hw]; rfl
    refine lv_tableIn (tgt := 60) (off := 59) hx hb dX9_count_1 (by omega) (by omega) (by rw [qw]; rfl) (by decide) ?_
    refine lv_aload_n hx hb dX9_count_60 rfl (lv_at hl 0 rfl) ?_
    refine va_get (D := g.1) (ci := 9) (v := .int 0) (C := RX9) (T := TX9) (N := 47) hx hb hg inG9 hown hK hP 0 rfl rfl 16 (by decide) (hg _ mm_974) (fun _ h9 => h9) rfl dX9_count_61 ?_
    exact W.iret (v := 0) hx hb hr (fun t ht hW => ⟨0, rfl, by first | exact Or.inl ⟨rfl, by omega⟩ | exact Or.inr (Or.inl ⟨rfl, by omega⟩) | exact Or.inr (Or.inl ⟨by assumption, by omega⟩) | exact Or.inr (Or.inr ⟨rfl, by omega, by omega⟩), ht⟩) (fun q hq => by cases hq) dX9_count_64
  · skip
    have qw : wh.toInt = 5 := by rw [hw]; rfl
    refine lv_tableIn (tgt := 65) (off := 64) hx hb dX9_count_1 (by omega) (by omega) (by rw [qw]; rfl) (by decide) ?_
    refine lv_aload_n hx hb dX9_count_65 rfl (lv_at hl 0 rfl) ?_
    refine va_get (D := g.1) (ci := 9) (v := .int 0) (C := RX9) (T := TX9) (N := 47) hx hb hg inG9 hown hK hP 0 rfl rfl 8 (by decide) (hg _ mm_966) (fun _ h9 => h9) rfl dX9_count_66 ?_
    exact W.iret (v := 0) hx hb hr (fun t ht hW => ⟨0, rfl, by first | exact Or.inl ⟨rfl, by omega⟩ | exact Or.inr (Or.inl ⟨rfl, by omega⟩) | exact Or.inr (Or.inl ⟨by assumption, by omega⟩) | exact Or.inr (Or.inr ⟨rfl, by omega, by omega⟩), ht⟩) (fun q hq => by cases hq) dX9_count_69
  · skip
    refine lv_tableOut (tgt := 70) hx hb dX9_count_1 hw (by decide) ?_
    refine lv_iload_n hx hb dX9_count_70 rfl (lv_at hl 1 rfl) ?_
    refine lv_bipush (v := 10) hx hb dX9_count_71 (by decide) ?_
    refine lv_bipush (v := 9) hx hb dX9_count_73 (by decide) ?_
    refine lv_aload_n hx hb dX9_count_75 rfl (lv_at hl 0 rfl) ?_
    refine va_get (D := g.1) (ci := 9) (v := .int 0) (C := RX9) (T := TX9) (N := 47) hx hb hg inG9 hown hK hP 0 rfl rfl 5 (by decide) (hg _ mm_963) (fun _ h9 => h9) rfl dX9_count_76 ?_
    refine lv_iadd hx hb dX9_count_79 ?_
    refine lv_topi (fun x1 ex1 => ?_)
    obtain rfl : x1 = 9 := ex1.trans (by decide)
    have hPc := hP.sub (ws' := []) [] rfl
    refine zc_i (va_runS (As := [.int wh, .int 10, .int 9]) (rest := []) ⟨hx, hb, hml, hown, hg⟩ (c_X9_in l g wh (10 : Int32) (9 : Int32) ) (va_cwS 3 hg (z_gS mm_1109 mm_1110 mm_117 mm_1111) rfl rfl rfl (by decide +kernel) ⟨Nat.le_of_ble_eq_true rfl, Nat.le_of_ble_eq_true rfl⟩) (zR.pre [.int wh, .int 10, .int 9] hPc hK hN) rfl rfl hl.1 rfl (lv_room (Nat.le_of_ble_eq_true rfl)) dX9_count_80 ⟨Nat.le_of_ble_eq_true rfl, Nat.le_of_ble_eq_true rfl⟩) (fun r2 hr2 => ?_)
    rcases hr2 with hr2 | hr2
    · skip
      obtain ⟨rfl, h3, h4⟩ := hr2
      have h3 : (10 : Int) ≤ wh.toInt := h3
      have h4 : wh.toInt ≤ (9 : Int) := h4
      exfalso
      omega
    · skip
      obtain ⟨rfl, h5⟩ := hr2
      have h5 : ¬ ((10 : Int) ≤ wh.toInt ∧ wh.toInt ≤ (9 : Int)) := h5
      refine lv_if_eq (tgt := 96) hx hb dX9_count_83 (by decide) (fun c6 => ?_) (fun c6 => ?_)
      · skip
        refine lv_iload_n hx hb dX9_count_96 rfl (lv_at hl 1 rfl) ?_
        refine lv_bipush (v := 20) hx hb dX9_count_97 (by decide) ?_
        refine lv_bipush (v := 23) hx hb dX9_count_99 (by decide) ?_
        have hPc := hP.sub (ws' := []) [] rfl
        refine zc_i (va_runS (As := [.int wh, .int 20, .int 23]) (rest := []) ⟨hx, hb, hml, hown, hg⟩ (c_X9_in l g wh (20 : Int32) (23 : Int32) ) (va_cwS 3 hg (z_gS mm_1109 mm_1110 mm_117 mm_1111) rfl rfl rfl (by decide +kernel) ⟨Nat.le_of_ble_eq_true rfl, Nat.le_of_ble_eq_true rfl⟩) (zR.pre [.int wh, .int 20, .int 23] hPc hK hN) rfl rfl hl.1 rfl (lv_room (Nat.le_of_ble_eq_true rfl)) dX9_count_101 ⟨Nat.le_of_ble_eq_true rfl, Nat.le_of_ble_eq_true rfl⟩) (fun r7 hr7 => ?_)
        rcases hr7 with hr7 | hr7
        · skip
          obtain ⟨rfl, h8, h9⟩ := hr7
          have h8 : (20 : Int) ≤ wh.toInt := h8
          have h9 : wh.toInt ≤ (23 : Int) := h9
          refine lv_if_eq (tgt := 117) hx hb dX9_count_104 (by decide) (fun c10 => ?_) (fun c10 => ?_)
          · skip
            exact absurd c10 (by decide)
          · skip
            refine lv_aload_n hx hb dX9_count_107 rfl (lv_at hl 0 rfl) ?_
            refine va_get (D := g.1) (ci := 9) (v := .ref bmw) (C := RX9) (T := TX9) (N := 47) hx hb hg inG9 hown hK hP 0 rfl rfl 2 (by decide) (hg _ mm_960) (fun _ h9 => h9) rfl dX9_count_108 ?_
            refine lv_iload_n hx hb dX9_count_111 rfl (lv_at hl 1 rfl) ?_
            refine lv_bipush (v := 20) hx hb dX9_count_112 (by decide) ?_
            refine lv_isub hx hb dX9_count_114 ?_
            refine lv_topi (fun x11 ex11 => ?_)
            have tx11 : x11.toInt = wh.toInt - 20 := by rw [ex11]; exact z_sub rfl (by decide : (20 : Int32).toInt = 20) (by omega) (by omega)
            refine va_iald hx hb hK hP 1 0 rfl rfl (z_in rfl (by omega) (by omega)) dX9_count_115 ?_
            refine lv_topi (fun x12 ex12 => ?_)
            have ex12 : x12 = mw (Int32.toNatClampNeg x11) := ex12.trans (congrArg mw rfl)
            obtain rfl : x12 = 1 := ex12.trans (hw1 _ (z_clt rfl (by omega) (by omega)))
            exact W.iret (v := 1) hx hb hr (fun t ht hW => ⟨1, rfl, by first | exact Or.inl ⟨rfl, by omega⟩ | exact Or.inr (Or.inl ⟨rfl, by omega⟩) | exact Or.inr (Or.inl ⟨by assumption, by omega⟩) | exact Or.inr (Or.inr ⟨rfl, by omega, by omega⟩), ht⟩) (fun q hq => by cases hq) dX9_count_116
        · skip
          obtain ⟨rfl, h13⟩ := hr7
          have h13 : ¬ ((20 : Int) ≤ wh.toInt ∧ wh.toInt ≤ (23 : Int)) := h13
          refine lv_if_eq (tgt := 117) hx hb dX9_count_104 (by decide) (fun c14 => ?_) (fun c14 => ?_)
          · skip
            refine lv_iload_n hx hb dX9_count_117 rfl (lv_at hl 1 rfl) ?_
            refine lv_bipush (v := 30) hx hb dX9_count_118 (by decide) ?_
            refine lv_bipush (v := 29) hx hb dX9_count_120 (by decide) ?_
            refine lv_aload_n hx hb dX9_count_122 rfl (lv_at hl 0 rfl) ?_
            refine va_get (D := g.1) (ci := 9) (v := .int 0) (C := RX9) (T := TX9) (N := 47) hx hb hg inG9 hown hK hP 0 rfl rfl 0 (by decide) (hg _ mm_958) (fun _ h9 => h9) rfl dX9_count_123 ?_
            refine lv_iadd hx hb dX9_count_126 ?_
            refine lv_topi (fun x15 ex15 => ?_)
            obtain rfl : x15 = 29 := ex15.trans (by decide)
            have hPc := hP.sub (ws' := []) [] rfl
            refine zc_i (va_runS (As := [.int wh, .int 30, .int 29]) (rest := []) ⟨hx, hb, hml, hown, hg⟩ (c_X9_in l g wh (30 : Int32) (29 : Int32) ) (va_cwS 3 hg (z_gS mm_1109 mm_1110 mm_117 mm_1111) rfl rfl rfl (by decide +kernel) ⟨Nat.le_of_ble_eq_true rfl, Nat.le_of_ble_eq_true rfl⟩) (zR.pre [.int wh, .int 30, .int 29] hPc hK hN) rfl rfl hl.1 rfl (lv_room (Nat.le_of_ble_eq_true rfl)) dX9_count_127 ⟨Nat.le_of_ble_eq_true rfl, Nat.le_of_ble_eq_true rfl⟩) (fun r16 hr16 => ?_)
            rcases hr16 with hr16 | hr16
            · skip
              obtain ⟨rfl, h17, h18⟩ := hr16
              have h17 : (30 : Int) ≤ wh.toInt := h17
              have h18 : wh.toInt ≤ (29 : Int) := h18
              exfalso
              omega
            · skip
              obtain ⟨rfl, h19⟩ := hr16
              have h19 : ¬ ((30 : Int) ≤ wh.toInt ∧ wh.toInt ≤ (29 : Int)) := h19
              refine lv_if_eq (tgt := 145) hx hb dX9_count_130 (by decide) (fun c20 => ?_) (fun c20 => ?_)
              · skip
                refine lv_iconst (v := (-1)) hx hb dX9_count_145 (by decide) ?_
                exact W.iret (v := (-1)) hx hb hr (fun t ht hW => ⟨(-1), rfl, by first | exact Or.inl ⟨rfl, by omega⟩ | exact Or.inr (Or.inl ⟨rfl, by omega⟩) | exact Or.inr (Or.inl ⟨by assumption, by omega⟩) | exact Or.inr (Or.inr ⟨rfl, by omega, by omega⟩), ht⟩) (fun q hq => by cases hq) dX9_count_146
              · skip
                exact absurd c20 (by decide)
          · skip
            exact absurd c14 (by decide)
      · skip
        exact absurd c6 (by decide)

set_option maxHeartbeats 4000000 in
set_option maxRecDepth 100000 in
theorem c_X9_size (l : Launch) (g : zG) (h0 : Nat) (bmu : Nat) (mu : Nat → Int32) (u2 : Value) (u3 : Value) (u4 : Value) (u9 : Value) (u10 : Value) (u11 : Value) (u12 : Value) (u13 : Value) (u14 : Value) (u15 : Value) (u17 : Value) (u18 : Value) (u19 : Value) (u20 : Value) (u21 : Value) (u22 : Value) (u23 : Value) (u24 : Value) (u25 : Value) (u26 : Value) (u27 : Value) (u28 : Value) (u29 : Value) (u30 : Value) (u31 : Value) (u32 : Value) (u33 : Value) (u34 : Value) (u35 : Value) (u36 : Value) (u37 : Value) (u38 : Value) (u39 : Value) (u40 : Value) (u41 : Value) (u42 : Value) (u43 : Value) (u44 : Value) (u45 : Value) (u46 : Value) (c0 : Int32) (nd : Int32) (hu : ∀ j, j < 128 → mu j = -1) : Met l yX9_size (zW yX9_size cX9_size 3 (some .int)) ({ frames := 2, cells := 0, slots := 0, locals := 48 }) (va_Pc [.ref h0, .int c0, .int nd] (zR g [(h0, .inr (9, [.int 0, .ref bmu, u2, u3, u4, .int 0, .int 0, .int 0, .int 0, u9, u10, u11, u12, u13, u14, u15, .int 0, u17, u18, u19, u20, u21, u22, u23, u24, u25, u26, u27, u28, u29, u30, u31, u32, u33, u34, u35, u36, u37, u38, u39, u40, u41, u42, u43, u44, u45, u46])), (bmu, .inl (g.2 0, 128, .inl mu))])) (vp_Si (fun r : Int32 => (r = (-1) ∧ (¬ (0 ≤ c0.toInt ∧ c0.toInt ≤ 3 ∧ (0 ≤ nd.toInt ∧ nd.toInt ≤ 32)))) ∨ (r = 1 ∧ (0 ≤ c0.toInt ∧ c0.toInt ≤ 3 ∧ (0 ≤ nd.toInt ∧ nd.toInt ≤ 32)) ∧ (nd.toInt < 16)) ∨ (r = 0 ∧ (0 ≤ c0.toInt ∧ c0.toInt ≤ 3 ∧ (0 ≤ nd.toInt ∧ nd.toInt ≤ 32)) ∧ (16 ≤ nd.toInt ∧ nd.toInt < 32)) ∨ (r = 16 ∧ (0 ≤ c0.toInt ∧ c0.toInt ≤ 3 ∧ (0 ≤ nd.toInt ∧ nd.toInt ≤ 32)) ∧ (nd.toInt = 32)))) 0 0 (fun _ => False) := by
  refine Met.ofW (cc := cX9_size) (maxL := 3) (ret := (some .int)) (by decide) rfl ?_
  intro p e s m args below meth c s₁ B hml hv
  obtain ⟨rfl, hP, hK, hN⟩ := hv
  have hx := B.exec
  have hb := B.bytes
  have hr := B.returns
  have hg := zW.law (atoms_spec (ws := (zW yX9_size cX9_size 3 (some .int))) B.pre)
  have hown : s.vm.findClass RX9 = some m.cls := findClass_of_methodNamed B.named
  have hlocks := B.notSynchronized
  have hl := lv_entry ([.ref h0, .int c0, .int nd]) (n := 3) (Nat.le_of_ble_eq_true rfl)
  rw [lg_entry_eq]
  generalize (lg_sl ([.ref h0, .int c0, .int nd]) ++ List.replicate (3 - (lg_sl ([.ref h0, .int c0, .int nd])).length) Slot.unset).toArray = ls at hl ⊢
  have hl : lv_has ls 3 [(0, .ref h0), (1, .int c0), (2, .int nd)] := hl
  refine lv_iload_n hx hb dX9_size_0 rfl (lv_at hl 1 rfl) ?_
  have hPc := hP.sub (ws' := []) [] rfl
  refine zc_i (va_runS (As := [.int c0]) (rest := []) ⟨hx, hb, hml, hown, hg⟩ (c_X9_isColumn l g c0 ) (va_cwS 1 hg (z_gS mm_1106 mm_1107 mm_117 mm_1108) rfl rfl rfl (by decide +kernel) ⟨Nat.le_of_ble_eq_true rfl, Nat.le_of_ble_eq_true rfl⟩) (zR.pre [.int c0] hPc hK hN) rfl rfl hl.1 rfl (lv_room (Nat.le_of_ble_eq_true rfl)) dX9_size_1 ⟨Nat.le_of_ble_eq_true rfl, Nat.le_of_ble_eq_true rfl⟩) (fun r1 hr1 => ?_)
  rcases hr1 with hr1 | hr1
  · skip
    obtain ⟨rfl, h2, h3⟩ := hr1
    have h2 : 0 ≤ c0.toInt := h2
    have h3 : c0.toInt ≤ 3 := h3
    refine lv_if_eq (tgt := 26) hx hb dX9_size_4 (by decide) (fun c4 => ?_) (fun c4 => ?_)
    · skip
      exact absurd c4 (by decide)
    · skip
      refine lv_iload_n hx hb dX9_size_7 rfl (lv_at hl 2 rfl) ?_
      refine lv_iconst (v := 0) hx hb dX9_size_8 (by decide) ?_
      refine lv_bipush (v := 32) hx hb dX9_size_9 (by decide) ?_
      have hPc := hP.sub (ws' := []) [] rfl
      refine zc_i (va_runS (As := [.int nd, .int 0, .int 32]) (rest := []) ⟨hx, hb, hml, hown, hg⟩ (c_X9_in l g nd (0 : Int32) (32 : Int32) ) (va_cwS 3 hg (z_gS mm_1109 mm_1110 mm_117 mm_1111) rfl rfl rfl (by decide +kernel) ⟨Nat.le_of_ble_eq_true rfl, Nat.le_of_ble_eq_true rfl⟩) (zR.pre [.int nd, .int 0, .int 32] hPc hK hN) rfl rfl hl.1 rfl (lv_room (Nat.le_of_ble_eq_true rfl)) dX9_size_11 ⟨Nat.le_of_ble_eq_true rfl, Nat.le_of_ble_eq_true rfl⟩) (fun r5 hr5 => ?_)
      rcases hr5 with hr5 | hr5
      · skip
        obtain ⟨rfl, h6, h7⟩ := hr5
        have h6 : (0 : Int) ≤ nd.toInt := h6
        have h7 : nd.toInt ≤ (32 : Int) := h7
        refine lv_if_eq (tgt := 26) hx hb dX9_size_14 (by decide) (fun c8 => ?_) (fun c8 => ?_)
        · skip
          exact absurd c8 (by decide)
        · skip
          refine lv_aload_n hx hb dX9_size_17 rfl (lv_at hl 0 rfl) ?_
          refine lv_iload_n hx hb dX9_size_18 rfl (lv_at hl 1 rfl) ?_
          refine lv_iload_n hx hb dX9_size_19 rfl (lv_at hl 2 rfl) ?_
          have hPc := hP.sub (ws' := [(h0, .inr (9, [.int 0, .ref bmu, u2, u3, u4, .int 0, .int 0, .int 0, .int 0, u9, u10, u11, u12, u13, u14, u15, .int 0, u17, u18, u19, u20, u21, u22, u23, u24, u25, u26, u27, u28, u29, u30, u31, u32, u33, u34, u35, u36, u37, u38, u39, u40, u41, u42, u43, u44, u45, u46])), (bmu, .inl (g.2 0, 128, .inl mu))]) [0, 1] rfl
          refine zc_i (va_runV (As := [.int c0, .int nd]) (rest := []) ⟨hx, hb, hml, hown, hg⟩ (c_X9_sizeOf l g h0 bmu mu (u2 : Value) (u3 : Value) (u4 : Value) (u9 : Value) (u10 : Value) (u11 : Value) (u12 : Value) (u13 : Value) (u14 : Value) (u15 : Value) (u17 : Value) (u18 : Value) (u19 : Value) (u20 : Value) (u21 : Value) (u22 : Value) (u23 : Value) (u24 : Value) (u25 : Value) (u26 : Value) (u27 : Value) (u28 : Value) (u29 : Value) (u30 : Value) (u31 : Value) (u32 : Value) (u33 : Value) (u34 : Value) (u35 : Value) (u36 : Value) (u37 : Value) (u38 : Value) (u39 : Value) (u40 : Value) (u41 : Value) (u42 : Value) (u43 : Value) (u44 : Value) (u45 : Value) (u46 : Value) c0 nd (by first | omega | assumption | decide | (rw [nI_toInt] <;> omega)) (by first | omega | assumption | decide | (rw [nI_toInt] <;> omega)) (by first | omega | assumption | decide | (rw [nI_toInt] <;> omega))) (cwV 2 hg (z_gV mm_1140 mm_1142 mm_53 mm_117 mm_1143) rfl rfl rfl (by decide +kernel) ⟨Nat.le_of_ble_eq_true rfl, Nat.le_of_ble_eq_true rfl⟩) ⟨(zR.pre [.ref h0, .int c0, .int nd] hPc hK hN).1, va_recv hK hPc (ci := 9) (q0 := 0) rfl rfl, (zR.pre [.ref h0, .int c0, .int nd] hPc hK hN).2⟩ rfl rfl hl.1 rfl (lv_room (Nat.le_of_ble_eq_true rfl)) dX9_size_20 ⟨Nat.le_of_ble_eq_true rfl, Nat.le_of_ble_eq_true rfl⟩) (fun r9 hr9 => ?_)
          rcases hr9 with hr9 | hr9 | hr9
          · skip
            obtain ⟨rfl, h10⟩ := hr9
            have h10 : nd.toInt < 16 := h10
            refine lv_goto (tgt := 27) hx hb dX9_size_23 (by decide) ?_
            exact W.iret (v := 1) hx hb hr (fun t ht hW => ⟨1, rfl, by first | exact Or.inl ⟨rfl, by omega⟩ | exact Or.inr (Or.inl ⟨rfl, by omega, by omega⟩) | exact Or.inr (Or.inr (Or.inl ⟨rfl, by omega, by omega⟩)) | exact Or.inr (Or.inr (Or.inr ⟨rfl, by omega, by omega⟩)), ht⟩) (fun q hq => by cases hq) dX9_size_27
          · skip
            obtain ⟨rfl, h11, h12⟩ := hr9
            have h11 : 16 ≤ nd.toInt := h11
            have h12 : nd.toInt < 32 := h12
            refine lv_goto (tgt := 27) hx hb dX9_size_23 (by decide) ?_
            exact W.iret (v := 0) hx hb hr (fun t ht hW => ⟨0, rfl, by first | exact Or.inl ⟨rfl, by omega⟩ | exact Or.inr (Or.inl ⟨rfl, by omega, by omega⟩) | exact Or.inr (Or.inr (Or.inl ⟨rfl, by omega, by omega⟩)) | exact Or.inr (Or.inr (Or.inr ⟨rfl, by omega, by omega⟩)), ht⟩) (fun q hq => by cases hq) dX9_size_27
          · skip
            obtain ⟨rfl, h13⟩ := hr9
            have h13 : nd.toInt = 32 := h13
            refine lv_goto (tgt := 27) hx hb dX9_size_23 (by decide) ?_
            exact W.iret (v := 16) hx hb hr (fun t ht hW => ⟨16, rfl, by first | exact Or.inl ⟨rfl, by omega⟩ | exact Or.inr (Or.inl ⟨rfl, by omega, by omega⟩) | exact Or.inr (Or.inr (Or.inl ⟨rfl, by omega, by omega⟩)) | exact Or.inr (Or.inr (Or.inr ⟨rfl, by omega, by omega⟩)), ht⟩) (fun q hq => by cases hq) dX9_size_27
      · skip
        obtain ⟨rfl, h14⟩ := hr5
        have h14 : ¬ ((0 : Int) ≤ nd.toInt ∧ nd.toInt ≤ (32 : Int)) := h14
        refine lv_if_eq (tgt := 26) hx hb dX9_size_14 (by decide) (fun c15 => ?_) (fun c15 => ?_)
        · skip
          refine lv_iconst (v := (-1)) hx hb dX9_size_26 (by decide) ?_
          exact W.iret (v := (-1)) hx hb hr (fun t ht hW => ⟨(-1), rfl, by first | exact Or.inl ⟨rfl, by omega⟩ | exact Or.inr (Or.inl ⟨rfl, by omega, by omega⟩) | exact Or.inr (Or.inr (Or.inl ⟨rfl, by omega, by omega⟩)) | exact Or.inr (Or.inr (Or.inr ⟨rfl, by omega, by omega⟩)), ht⟩) (fun q hq => by cases hq) dX9_size_27
        · skip
          exact absurd c15 (by decide)
  · skip
    obtain ⟨rfl, h16⟩ := hr1
    have h16 : ¬ (0 ≤ c0.toInt ∧ c0.toInt ≤ 3) := h16
    refine lv_if_eq (tgt := 26) hx hb dX9_size_4 (by decide) (fun c17 => ?_) (fun c17 => ?_)
    · skip
      refine lv_iconst (v := (-1)) hx hb dX9_size_26 (by decide) ?_
      exact W.iret (v := (-1)) hx hb hr (fun t ht hW => ⟨(-1), rfl, by first | exact Or.inl ⟨rfl, by omega⟩ | exact Or.inr (Or.inl ⟨rfl, by omega, by omega⟩) | exact Or.inr (Or.inr (Or.inl ⟨rfl, by omega, by omega⟩)) | exact Or.inr (Or.inr (Or.inr ⟨rfl, by omega, by omega⟩)), ht⟩) (fun q hq => by cases hq) dX9_size_27
    · skip
      exact absurd c17 (by decide)
