set_option maxHeartbeats 4000000 in
set_option maxRecDepth 100000 in
theorem k_X9_sumSign (l : Launch) (g : zG) (ad : Nat → Nat) (me : Int32) (ct : Nat → va_E) (ch : Int32) (hI : IR g ad me ct) : Met l yX9_sumSign (zW yX9_sumSign cX9_sumSign 1 (some .int)) ({ frames := 0, cells := 0, slots := 0, locals := 0 }) (va_Pc [.int ch] (zR g (zw 32 ad ct))) (vp_Si (fun r : Int32 => ((r.toInt = -1 ∨ (2 ≤ r.toInt ∧ r.toInt ≤ 6 ∧ 0 ≤ ch.toInt))))) 0 0 (fun _ => False) := by
  refine Met.ofW (cc := cX9_sumSign) (maxL := 1) (ret := (some .int)) (by decide) rfl ?_
  intro p e s m args below meth c s₁ B hml hv
  obtain ⟨rfl, hP, hK, hN⟩ := hv
  have hx := B.exec
  have hb := B.bytes
  have hr := B.returns
  have hg := zW.law (atoms_spec (ws := (zW yX9_sumSign cX9_sumSign 1 (some .int))) B.pre)
  have hown : s.vm.findClass RX9 = some m.cls := findClass_of_methodNamed B.named
  have hlocks := B.notSynchronized
  have hpe0 := hI.1.1
  have hl := lv_entry ([.int ch]) (n := 1) (Nat.le_of_ble_eq_true rfl)
  rw [lg_entry_eq]
  generalize (lg_sl ([.int ch]) ++ List.replicate (1 - (lg_sl ([.int ch])).length) Slot.unset).toArray = ls at hl ⊢
  have hl : lv_has ls 1 [(0, .int ch)] := hl
  have rg_ch := z_rng ch
  refine lv_iload_n hx hb dX9_sumSign_0 rfl (lv_at hl 0 rfl) ?_
  refine lv_bipush (v := 43) hx hb dX9_sumSign_1 (by decide) ?_
  refine lv_icmp_ne (tgt := 10) hx hb dX9_sumSign_3 (by decide) (fun c1 => ?_) (fun c1 => ?_)
  · skip
    have c1 : ¬ (ch.toInt = 43) := fun q => c1 ((z_eq rfl (by decide : (43 : Int32).toInt = 43)).mpr q)
    refine lv_iload_n hx hb dX9_sumSign_10 rfl (lv_at hl 0 rfl) ?_
    refine lv_bipush (v := 45) hx hb dX9_sumSign_11 (by decide) ?_
    refine lv_icmp_ne (tgt := 20) hx hb dX9_sumSign_13 (by decide) (fun c2 => ?_) (fun c2 => ?_)
    · skip
      have c2 : ¬ (ch.toInt = 45) := fun q => c2 ((z_eq rfl (by decide : (45 : Int32).toInt = 45)).mpr q)
      refine lv_iload_n hx hb dX9_sumSign_20 rfl (lv_at hl 0 rfl) ?_
      refine lv_bipush (v := 42) hx hb dX9_sumSign_21 (by decide) ?_
      refine lv_icmp_ne (tgt := 30) hx hb dX9_sumSign_23 (by decide) (fun c3 => ?_) (fun c3 => ?_)
      · skip
        have c3 : ¬ (ch.toInt = 42) := fun q => c3 ((z_eq rfl (by decide : (42 : Int32).toInt = 42)).mpr q)
        refine lv_iload_n hx hb dX9_sumSign_30 rfl (lv_at hl 0 rfl) ?_
        refine lv_bipush (v := 47) hx hb dX9_sumSign_31 (by decide) ?_
        refine lv_icmp_ne (tgt := 40) hx hb dX9_sumSign_33 (by decide) (fun c4 => ?_) (fun c4 => ?_)
        · skip
          have c4 : ¬ (ch.toInt = 47) := fun q => c4 ((z_eq rfl (by decide : (47 : Int32).toInt = 47)).mpr q)
          refine lv_iload_n hx hb dX9_sumSign_40 rfl (lv_at hl 0 rfl) ?_
          refine lv_bipush (v := 37) hx hb dX9_sumSign_41 (by decide) ?_
          refine lv_icmp_ne (tgt := 51) hx hb dX9_sumSign_43 (by decide) (fun c5 => ?_) (fun c5 => ?_)
          · skip
            have c5 : ¬ (ch.toInt = 37) := fun q => c5 ((z_eq rfl (by decide : (37 : Int32).toInt = 37)).mpr q)
            refine lv_iconst (v := (-1)) hx hb dX9_sumSign_51 (by decide) ?_
            have q6 : ((-1) : Int32).toInt = -1 := by decide
            exact W.iret (v := (-1)) hx hb hr (fun t ht hW => ⟨(-1), rfl, by omega, ht⟩) (fun q hq => by cases hq) dX9_sumSign_52
          · skip
            have c5 : ch.toInt = 37 := (z_eq rfl (by decide : (37 : Int32).toInt = 37)).mp c5
            refine lv_bipush (v := 6) hx hb dX9_sumSign_46 (by decide) ?_
            refine lv_goto (tgt := 52) hx hb dX9_sumSign_48 (by decide) ?_
            have q7 : (6 : Int32).toInt = 6 := by decide
            exact W.iret (v := 6) hx hb hr (fun t ht hW => ⟨6, rfl, by omega, ht⟩) (fun q hq => by cases hq) dX9_sumSign_52
        · skip
          have c4 : ch.toInt = 47 := (z_eq rfl (by decide : (47 : Int32).toInt = 47)).mp c4
          refine lv_iconst (v := 5) hx hb dX9_sumSign_36 (by decide) ?_
          refine lv_goto (tgt := 52) hx hb dX9_sumSign_37 (by decide) ?_
          have q8 : (5 : Int32).toInt = 5 := by decide
          exact W.iret (v := 5) hx hb hr (fun t ht hW => ⟨5, rfl, by omega, ht⟩) (fun q hq => by cases hq) dX9_sumSign_52
      · skip
        have c3 : ch.toInt = 42 := (z_eq rfl (by decide : (42 : Int32).toInt = 42)).mp c3
        refine lv_iconst (v := 4) hx hb dX9_sumSign_26 (by decide) ?_
        refine lv_goto (tgt := 52) hx hb dX9_sumSign_27 (by decide) ?_
        have q9 : (4 : Int32).toInt = 4 := by decide
        exact W.iret (v := 4) hx hb hr (fun t ht hW => ⟨4, rfl, by omega, ht⟩) (fun q hq => by cases hq) dX9_sumSign_52
    · skip
      have c2 : ch.toInt = 45 := (z_eq rfl (by decide : (45 : Int32).toInt = 45)).mp c2
      refine lv_iconst (v := 3) hx hb dX9_sumSign_16 (by decide) ?_
      refine lv_goto (tgt := 52) hx hb dX9_sumSign_17 (by decide) ?_
      have q10 : (3 : Int32).toInt = 3 := by decide
      exact W.iret (v := 3) hx hb hr (fun t ht hW => ⟨3, rfl, by omega, ht⟩) (fun q hq => by cases hq) dX9_sumSign_52
  · skip
    have c1 : ch.toInt = 43 := (z_eq rfl (by decide : (43 : Int32).toInt = 43)).mp c1
    refine lv_iconst (v := 2) hx hb dX9_sumSign_6 (by decide) ?_
    refine lv_goto (tgt := 52) hx hb dX9_sumSign_7 (by decide) ?_
    have q11 : (2 : Int32).toInt = 2 := by decide
    exact W.iret (v := 2) hx hb hr (fun t ht hW => ⟨2, rfl, by omega, ht⟩) (fun q hq => by cases hq) dX9_sumSign_52
