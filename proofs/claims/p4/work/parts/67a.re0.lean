set_option maxHeartbeats 4000000 in
set_option maxRecDepth 100000 in
theorem k_X9_bitsv (l : Launch) (g : zG) (ad : Nat → Nat) (me : Int32) (ct : Nat → va_E) (set : Int32) (hI : IR g ad me ct) : Met l yX9_bits (zW yX9_bits cX9_bits 3 (some .int)) ({ frames := 0, cells := 0, slots := 0, locals := 0 }) (va_Pc [.int set] (zR g (zw 32 ad ct))) (vp_Si (fun r : Int32 => ((0 ≤ r.toInt) ∧ (r.toInt ≤ 16) ∧ (r.toInt = zpop set 16)))) 0 0 (fun _ => False) := by
  refine Met.ofW (cc := cX9_bits) (maxL := 3) (ret := (some .int)) (by decide) rfl ?_
  intro p e s m args below meth c s₁ B hml hv
  obtain ⟨rfl, hP, hK, hN⟩ := hv
  have hx := B.exec
  have hb := B.bytes
  have hr := B.returns
  have hg := zW.law (atoms_spec (ws := (zW yX9_bits cX9_bits 3 (some .int))) B.pre)
  have hown : s.vm.findClass RX9 = some m.cls := findClass_of_methodNamed B.named
  have hlocks := B.notSynchronized
  have hpe0 := hI.1.1
  have hl := lv_entry ([.int set]) (n := 3) (Nat.le_of_ble_eq_true rfl)
  rw [lg_entry_eq]
  generalize (lg_sl ([.int set]) ++ List.replicate (3 - (lg_sl ([.int set])).length) Slot.unset).toArray = ls at hl ⊢
  have hl : lv_has ls 3 [(0, .int set)] := hl
  have rg_set := z_rng set
  refine lv_iconst (v := 0) hx hb dX9_bits_0 (by decide) ?_
  refine lv_istore_n (lv' := [(1, .int 0), (0, .int set)]) hx hb dX9_bits_1 rfl hl (by decide) rfl (fun ls hl => ?_)
  refine lv_iconst (v := 0) hx hb dX9_bits_2 (by decide) ?_
  refine lv_istore_n (lv' := [(2, .int 0), (1, .int 0), (0, .int set)]) hx hb dX9_bits_3 rfl hl (by decide) rfl (fun ls hl => ?_)
  have loop4 : ∀ (n4 : Nat) (v2_4 : Int32) (v1_4 : Int32) (ls : Array Slot), ((16 - v2_4.toInt : Int).toNat < n4) → (0 ≤ v2_4.toInt ∧ v2_4.toInt ≤ 16) → (0 ≤ v1_4.toInt ∧ v1_4.toInt ≤ 16) → (v1_4.toInt ≤ v2_4.toInt) → (v1_4.toInt = zpop set v2_4.toInt.toNat) → lv_has ls 3 [(2, .int v2_4), (1, .int v1_4), (0, .int set)] → W p l e (headSpec (zW yX9_bits cX9_bits 3 (some .int)) ({ frames := 0, cells := 0, slots := 0, locals := 0 })).room s m ([.int set] : List Value).toArray below meth c s.heap [] 0 0 (MQ below (vp_Si (fun r : Int32 => ((0 ≤ r.toInt) ∧ (r.toInt ≤ 16) ∧ (r.toInt = zpop set 16)))) ([.int set] : List Value).toArray s 0 0 (fun _ => False)) (F0 m 4 ls []) := by
    intro n4
    induction n4 with
    | zero =>
      intro v2_4 v1_4 ls hn4 b2_4 b1_4 j0_4 j1_4 hl
      exact absurd hn4 (Nat.not_lt_zero _)
    | succ n4 ih4 =>
      intro v2_4 v1_4 ls hn4 b2_4 b1_4 j0_4 j1_4 hl
      refine lv_iload_n hx hb dX9_bits_4 rfl (lv_at hl 0 rfl) ?_
      refine lv_bipush (v := 16) hx hb dX9_bits_5 (by decide) ?_
      refine lv_icmp_ge (tgt := 24) hx hb dX9_bits_7 (by decide) (fun c1 => ?_) (fun c1 => ?_)
      · skip
        have c1 : 16 ≤ v2_4.toInt := (z_le (by decide : (16 : Int32).toInt = 16) rfl).mp c1
        refine lv_iload_n hx hb dX9_bits_24 rfl (lv_at hl 1 rfl) ?_
        exact W.iret (v := v1_4) hx hb hr (fun t ht hW => ⟨v1_4, rfl, ⟨by omega, by omega, by rw [show (16 : Nat) = v2_4.toInt.toNat by omega]; exact j1_4⟩, ht⟩) (fun q hq => by cases hq) dX9_bits_25
      · skip
        have c1 : ¬ (16 ≤ v2_4.toInt) := fun q => c1 ((z_le (by decide : (16 : Int32).toInt = 16) rfl).mpr q)
        refine lv_iload_n hx hb dX9_bits_10 rfl (lv_at hl 1 rfl) ?_
        refine lv_iload_n hx hb dX9_bits_11 rfl (lv_at hl 2 rfl) ?_
        refine lv_iload_n hx hb dX9_bits_12 rfl (lv_at hl 0 rfl) ?_
        refine lv_ishr hx hb dX9_bits_13 ?_
        refine lv_topi (fun x2 ex2 => ?_)
        refine lv_iconst (v := 1) hx hb dX9_bits_14 (by decide) ?_
        refine lv_iand hx hb dX9_bits_15 ?_
        refine lv_topi (fun x3 ex3 => ?_)
        have tx3 := z_andr (x := x2) (y := 1) (by decide : (1 : Int32).toInt = 1) (by omega)
        rw [← ex3] at tx3
        refine lv_iadd hx hb dX9_bits_16 ?_
        refine lv_topi (fun x4 ex4 => ?_)
        have tx4 : x4.toInt = v1_4.toInt + x3.toInt := by rw [ex4]; exact z_add rfl rfl (by omega) (by omega)
        refine lv_istore_n (lv' := [(1, .int x4), (2, .int v2_4), (0, .int set)]) hx hb dX9_bits_17 rfl hl (by decide) rfl (fun ls hl => ?_)
        obtain ⟨x5, ex5⟩ : ∃ y : Int32, y = v2_4 + 1 := ⟨_, rfl⟩
        have tx5 : x5.toInt = v2_4.toInt + 1 := by rw [ex5]; exact z_add rfl (by decide : (1 : Int32).toInt = 1) (by omega) (by omega)
        refine lv_iinc (v := x5) (lv' := [(2, .int x5), (1, .int x4), (0, .int set)]) hx hb dX9_bits_18 hl (k := 1) rfl (by rw [ex5]; rfl) (by decide) rfl (fun ls hl => ?_)
        have hzp : x4.toInt = zpop set x5.toInt.toNat := by
          have e1 : x5.toInt.toNat = v2_4.toInt.toNat + 1 := by omega
          rw [e1, tx4]
          exact zpop_step (y := v2_4) (by omega) j1_4 ex3 ex2
        refine lv_goto (tgt := 4) hx hb dX9_bits_21 (by decide) ?_
        exact ih4 x5 x4 ls (by omega) (by first | assumption | omega | decide) (by first | assumption | omega | decide) (by first | assumption | omega | decide) (by first | assumption | omega | decide) (lv_sub hl [0, 1, 2] rfl)
  have hz0 : ((0 : Int32)).toInt = zpop set ((0 : Int32)).toInt.toNat := rfl
  exact loop4 ((16 - (0 : Int32).toInt : Int).toNat + 1) (0 : Int32) (0 : Int32) ls (by omega) (by first | assumption | omega | decide) (by first | assumption | omega | decide) (by first | assumption | omega | decide) (by first | assumption | omega | decide) (lv_sub hl [0, 1, 2] rfl)

set_option maxHeartbeats 4000000 in
set_option maxRecDepth 100000 in
theorem k_X9_mayLead (l : Launch) (g : zG) (ad : Nat → Nat) (me : Int32) (ct : Nat → va_E) (li : Int32) (b : Int32) (hl_li : 0 ≤ li.toInt ∧ li.toInt ≤ 31) (hl_b : 0 ≤ b.toInt ∧ b.toInt ≤ 3) (hI : IR g ad me ct) : Met l yX9_mayLead (zW yX9_mayLead cX9_mayLead 3 (some .boolean)) ({ frames := 0, cells := 0, slots := 0, locals := 0 }) (va_Pc [.ref (ad 0), .int li, .int b] (zR g (zw 32 ad ct))) (vp_Si (fun r : Int32 => (r = 1) ∨ (r = 0))) 0 0 (fun _ => False) := by
  refine Met.ofW (cc := cX9_mayLead) (maxL := 3) (ret := (some .boolean)) (by decide) rfl ?_
  intro p e s m args below meth c s₁ B hml hv
  obtain ⟨rfl, hP, hK, hN⟩ := hv
  have hx := B.exec
  have hb := B.bytes
  have hr := B.returns
  have hg := zW.law (atoms_spec (ws := (zW yX9_mayLead cX9_mayLead 3 (some .boolean))) B.pre)
  have hown : s.vm.findClass RX9 = some m.cls := findClass_of_methodNamed B.named
  have hlocks := B.notSynchronized
  have hpe0 := hI.1.1
  have hl := lv_entry ([.ref (ad 0), .int li, .int b]) (n := 3) (Nat.le_of_ble_eq_true rfl)
  rw [lg_entry_eq]
  generalize (lg_sl ([.ref (ad 0), .int li, .int b]) ++ List.replicate (3 - (lg_sl ([.ref (ad 0), .int li, .int b])).length) Slot.unset).toArray = ls at hl ⊢
  have hl : lv_has ls 3 [(0, .ref (ad 0)), (1, .int li), (2, .int b)] := hl
  refine lv_aload_n hx hb dX9_mayLead_0 rfl (lv_at hl 0 rfl) ?_
  obtain ⟨bks2, lks3, gos4, shn5, tpd6, pl07, ln08, flt9, opn10, cmy11, wtg12, nm013, mst14, sus15, cut16, h17, h18, h19, h20, h21, h22, h23, h24, h25, h26, h27, h28, h29, h30, h31, h32, h33, h34, h35, h36, hs1⟩ := a9_0 hI.1
  refine va_get (D := g.1) (ci := 9) (v := .ref (ad 10)) (C := RX9) (T := TX9) (N := 47) hx hb hg inG9 hown hK hP 0 (zw_at (by omega) hs1) rfl 14 (by decide) (hg _ mm_972) (fun _ h9 => h9) rfl dX9_mayLead_1 ?_
  refine lv_iload_n hx hb dX9_mayLead_4 rfl (lv_at hl 1 rfl) ?_
  obtain ⟨f38, hp39, hs37⟩ := a9_10 hI.1
  refine va_zald hx hb hK hP 10 3 (zw_at (by omega) hs37) rfl (z_in rfl (by omega) (by omega)) dX9_mayLead_5 ?_
  refine lv_topi (fun y40 ey40 => ?_)
  have hy40 := hp39 _ (z_clt (x := li) rfl (by omega) (by omega))
  rw [← ey40] at hy40
  have hy40 : y40 = 0 ∨ y40 = 1 := hy40
  have by40 := z_b01 hy40
  refine lv_if_ne (tgt := 36) hx hb dX9_mayLead_6 (by decide) (fun c41 => ?_) (fun c41 => ?_)
  · skip
    have c41 : ¬ (y40.toInt = 0) := fun q => c41 ((z_eq rfl (by decide : (0 : Int32).toInt = 0)).mpr q)
    refine lv_iconst (v := 0) hx hb dX9_mayLead_36 (by decide) ?_
    have q42 : (0 : Int32).toInt = 0 := by decide
    exact W.zret (v := 0) hx hb hr rfl (fun t ht hW => ⟨0, rfl, by first | exact Or.inl ⟨rfl, by omega⟩ | exact Or.inr ⟨rfl, by omega⟩ | exact Or.inl rfl | exact Or.inr rfl | exact Or.inl ⟨rfl, by omega, by omega⟩ | exact (z_01 (by omega) (by omega)).symm, ht⟩) (fun q hq => by cases hq) dX9_mayLead_37
  · skip
    have c41 : y40.toInt = 0 := (z_eq rfl (by decide : (0 : Int32).toInt = 0)).mp c41
    refine lv_iload_n hx hb dX9_mayLead_9 rfl (lv_at hl 1 rfl) ?_
    refine lv_bipush (v := 8) hx hb dX9_mayLead_10 (by decide) ?_
    refine lv_idiv hx hb dX9_mayLead_12 (by decide) ?_
    refine lv_topi (fun x43 ex43 => ?_)
    have tx43 := z_div (x := li) (y := 8) rfl (by decide : (8 : Int32).toInt = 8) (by omega) (by omega)
    rw [← ex43] at tx43
    refine lv_iload_n hx hb dX9_mayLead_13 rfl (lv_at hl 2 rfl) ?_
    refine lv_icmp_eq (tgt := 32) hx hb dX9_mayLead_14 (by decide) (fun c44 => ?_) (fun c44 => ?_)
    · skip
      have c44 : x43.toInt = b.toInt := (z_eq rfl rfl).mp c44
      refine lv_iconst (v := 1) hx hb dX9_mayLead_32 (by decide) ?_
      refine lv_goto (tgt := 37) hx hb dX9_mayLead_33 (by decide) ?_
      have q45 : (1 : Int32).toInt = 1 := by decide
      exact W.zret (v := 1) hx hb hr rfl (fun t ht hW => ⟨1, rfl, by first | exact Or.inl ⟨rfl, by omega⟩ | exact Or.inr ⟨rfl, by omega⟩ | exact Or.inl rfl | exact Or.inr rfl | exact Or.inl ⟨rfl, by omega, by omega⟩ | exact (z_01 (by omega) (by omega)).symm, ht⟩) (fun q hq => by cases hq) dX9_mayLead_37
    · skip
      have c44 : ¬ (x43.toInt = b.toInt) := fun q => c44 ((z_eq rfl rfl).mpr q)
      refine lv_aload_n hx hb dX9_mayLead_17 rfl (lv_at hl 0 rfl) ?_
      refine va_get (D := g.1) (ci := 9) (v := .int shn5) (C := RX9) (T := TX9) (N := 47) hx hb hg inG9 hown hK hP 0 (zw_at (by omega) hs1) rfl 8 (by decide) (hg _ mm_966) (fun _ h9 => h9) rfl dX9_mayLead_18 ?_
      refine lv_iload_n hx hb dX9_mayLead_21 rfl (lv_at hl 1 rfl) ?_
      refine lv_bipush (v := 8) hx hb dX9_mayLead_22 (by decide) ?_
      refine lv_idiv hx hb dX9_mayLead_24 (by decide) ?_
      refine lv_topi (fun x46 ex46 => ?_)
      have tx46 := z_div (x := li) (y := 8) rfl (by decide : (8 : Int32).toInt = 8) (by omega) (by omega)
      rw [← ex46] at tx46
      refine lv_ishr hx hb dX9_mayLead_25 ?_
      refine lv_topi (fun x47 ex47 => ?_)
      have tx47 := z_shr (x := shn5) rfl (by omega) x46
      rw [← ex47] at tx47
      refine lv_iconst (v := 1) hx hb dX9_mayLead_26 (by decide) ?_
      refine lv_iand hx hb dX9_mayLead_27 ?_
      refine lv_topi (fun x48 ex48 => ?_)
      have tx48 := z_andr (x := x47) (y := 1) (by decide : (1 : Int32).toInt = 1) (by omega)
      rw [← ex48] at tx48
      refine lv_iconst (v := 1) hx hb dX9_mayLead_28 (by decide) ?_
      refine lv_icmp_ne (tgt := 36) hx hb dX9_mayLead_29 (by decide) (fun c49 => ?_) (fun c49 => ?_)
      · skip
        have c49 : ¬ (x48.toInt = 1) := fun q => c49 ((z_eq rfl (by decide : (1 : Int32).toInt = 1)).mpr q)
        refine lv_iconst (v := 0) hx hb dX9_mayLead_36 (by decide) ?_
        have q50 : (0 : Int32).toInt = 0 := by decide
        exact W.zret (v := 0) hx hb hr rfl (fun t ht hW => ⟨0, rfl, by first | exact Or.inl ⟨rfl, by omega⟩ | exact Or.inr ⟨rfl, by omega⟩ | exact Or.inl rfl | exact Or.inr rfl | exact Or.inl ⟨rfl, by omega, by omega⟩ | exact (z_01 (by omega) (by omega)).symm, ht⟩) (fun q hq => by cases hq) dX9_mayLead_37
      · skip
        have c49 : x48.toInt = 1 := (z_eq rfl (by decide : (1 : Int32).toInt = 1)).mp c49
        refine lv_iconst (v := 1) hx hb dX9_mayLead_32 (by decide) ?_
        refine lv_goto (tgt := 37) hx hb dX9_mayLead_33 (by decide) ?_
        have q51 : (1 : Int32).toInt = 1 := by decide
        exact W.zret (v := 1) hx hb hr rfl (fun t ht hW => ⟨1, rfl, by first | exact Or.inl ⟨rfl, by omega⟩ | exact Or.inr ⟨rfl, by omega⟩ | exact Or.inl rfl | exact Or.inr rfl | exact Or.inl ⟨rfl, by omega, by omega⟩ | exact (z_01 (by omega) (by omega)).symm, ht⟩) (fun q hq => by cases hq) dX9_mayLead_37

set_option maxHeartbeats 4000000 in
set_option maxRecDepth 100000 in
theorem k_X9_reckon (l : Launch) (g : zG) (ad : Nat → Nat) (me : Int32) (ct : Nat → va_E) (op : Int32) (x0 : Int32) (y0 : Int32) (hI : IR g ad me ct) (hz : op.toInt = 5 ∨ op.toInt = 6 → ¬ y0.toInt = 0) : Met l yX9_reckon (zW yX9_reckon cX9_reckon 3 (some .int)) ({ frames := 0, cells := 0, slots := 0, locals := 0 }) (va_Pc [.int op, .int x0, .int y0] (zR g (zw 32 ad ct))) (vp_Si (fun r : Int32 => (True))) 0 0 (fun _ => False) := by
  refine Met.ofW (cc := cX9_reckon) (maxL := 3) (ret := (some .int)) (by decide) rfl ?_
  intro p e s m args below meth c s₁ B hml hv
  obtain ⟨rfl, hP, hK, hN⟩ := hv
  have hx := B.exec
  have hb := B.bytes
  have hr := B.returns
  have hg := zW.law (atoms_spec (ws := (zW yX9_reckon cX9_reckon 3 (some .int))) B.pre)
  have hown : s.vm.findClass RX9 = some m.cls := findClass_of_methodNamed B.named
  have hlocks := B.notSynchronized
  have hpe0 := hI.1.1
  have hl := lv_entry ([.int op, .int x0, .int y0]) (n := 3) (Nat.le_of_ble_eq_true rfl)
  rw [lg_entry_eq]
  generalize (lg_sl ([.int op, .int x0, .int y0]) ++ List.replicate (3 - (lg_sl ([.int op, .int x0, .int y0])).length) Slot.unset).toArray = ls at hl ⊢
  have hl : lv_has ls 3 [(0, .int op), (1, .int x0), (2, .int y0)] := hl
  have rg_op := z_rng op
  have rg_x0 := z_rng x0
  have rg_y0 := z_rng y0
  refine lv_iload_n hx hb dX9_reckon_0 rfl (lv_at hl 0 rfl) ?_
  rcases (show op.toInt = 2 ∨ op.toInt = 3 ∨ op.toInt = 4 ∨ op.toInt = 5 ∨ op.toInt = 6 ∨ op.toInt = 7 ∨ op.toInt = 8 ∨ op.toInt < 2 ∨ 8 < op.toInt by omega) with hw1 | hw1 | hw1 | hw1 | hw1 | hw1 | hw1 | hw1
  · skip
    refine lv_tableIn (tgt := 44) (off := 43) hx hb dX9_reckon_1 (by omega) (by omega) (by rw [hw1]; rfl) (by decide) ?_
    refine lv_iload_n hx hb dX9_reckon_44 rfl (lv_at hl 1 rfl) ?_
    refine lv_iload_n hx hb dX9_reckon_45 rfl (lv_at hl 2 rfl) ?_
    refine lv_iadd hx hb dX9_reckon_46 ?_
    refine lv_topi (fun x2 ex2 => ?_)
    exact W.iret (v := x2) hx hb hr (fun t ht hW => ⟨x2, rfl, trivial, ht⟩) (fun q hq => by cases hq) dX9_reckon_47
  · skip
    refine lv_tableIn (tgt := 48) (off := 47) hx hb dX9_reckon_1 (by omega) (by omega) (by rw [hw1]; rfl) (by decide) ?_
    refine lv_iload_n hx hb dX9_reckon_48 rfl (lv_at hl 1 rfl) ?_
    refine lv_iload_n hx hb dX9_reckon_49 rfl (lv_at hl 2 rfl) ?_
    refine lv_isub hx hb dX9_reckon_50 ?_
    refine lv_topi (fun x3 ex3 => ?_)
    exact W.iret (v := x3) hx hb hr (fun t ht hW => ⟨x3, rfl, trivial, ht⟩) (fun q hq => by cases hq) dX9_reckon_51
  · skip
    refine lv_tableIn (tgt := 52) (off := 51) hx hb dX9_reckon_1 (by omega) (by omega) (by rw [hw1]; rfl) (by decide) ?_
    refine lv_iload_n hx hb dX9_reckon_52 rfl (lv_at hl 1 rfl) ?_
    refine lv_iload_n hx hb dX9_reckon_53 rfl (lv_at hl 2 rfl) ?_
    refine lv_imul hx hb dX9_reckon_54 ?_
    refine lv_topi (fun x4 ex4 => ?_)
    exact W.iret (v := x4) hx hb hr (fun t ht hW => ⟨x4, rfl, trivial, ht⟩) (fun q hq => by cases hq) dX9_reckon_55
  · skip
    refine lv_tableIn (tgt := 56) (off := 55) hx hb dX9_reckon_1 (by omega) (by omega) (by rw [hw1]; rfl) (by decide) ?_
    refine lv_iload_n hx hb dX9_reckon_56 rfl (lv_at hl 1 rfl) ?_
    refine lv_iload_n hx hb dX9_reckon_57 rfl (lv_at hl 2 rfl) ?_
    refine lv_idiv hx hb dX9_reckon_58 (z_nz (by omega)) ?_
    refine lv_topi (fun x5 ex5 => ?_)
    exact W.iret (v := x5) hx hb hr (fun t ht hW => ⟨x5, rfl, trivial, ht⟩) (fun q hq => by cases hq) dX9_reckon_59
  · skip
    refine lv_tableIn (tgt := 60) (off := 59) hx hb dX9_reckon_1 (by omega) (by omega) (by rw [hw1]; rfl) (by decide) ?_
    refine lv_iload_n hx hb dX9_reckon_60 rfl (lv_at hl 1 rfl) ?_
    refine lv_iload_n hx hb dX9_reckon_61 rfl (lv_at hl 2 rfl) ?_
    refine lv_irem hx hb dX9_reckon_62 (z_nz (by omega)) ?_
    refine lv_topi (fun x6 ex6 => ?_)
    exact W.iret (v := x6) hx hb hr (fun t ht hW => ⟨x6, rfl, trivial, ht⟩) (fun q hq => by cases hq) dX9_reckon_63
  · skip
    refine lv_tableIn (tgt := 64) (off := 63) hx hb dX9_reckon_1 (by omega) (by omega) (by rw [hw1]; rfl) (by decide) ?_
    refine lv_iload_n hx hb dX9_reckon_64 rfl (lv_at hl 1 rfl) ?_
    refine lv_iload_n hx hb dX9_reckon_65 rfl (lv_at hl 2 rfl) ?_
    refine lv_icmp_ge (tgt := 73) hx hb dX9_reckon_66 (by decide) (fun c7 => ?_) (fun c7 => ?_)
    · skip
      have c7 : y0.toInt ≤ x0.toInt := (z_le rfl rfl).mp c7
      refine lv_iconst (v := 0) hx hb dX9_reckon_73 (by decide) ?_
      have q8 : (0 : Int32).toInt = 0 := by decide
      exact W.iret (v := 0) hx hb hr (fun t ht hW => ⟨0, rfl, trivial, ht⟩) (fun q hq => by cases hq) dX9_reckon_74
    · skip
      have c7 : ¬ (y0.toInt ≤ x0.toInt) := fun q => c7 ((z_le rfl rfl).mpr q)
      refine lv_iconst (v := 1) hx hb dX9_reckon_69 (by decide) ?_
      refine lv_goto (tgt := 74) hx hb dX9_reckon_70 (by decide) ?_
      have q9 : (1 : Int32).toInt = 1 := by decide
      exact W.iret (v := 1) hx hb hr (fun t ht hW => ⟨1, rfl, trivial, ht⟩) (fun q hq => by cases hq) dX9_reckon_74
  · skip
    refine lv_tableIn (tgt := 75) (off := 74) hx hb dX9_reckon_1 (by omega) (by omega) (by rw [hw1]; rfl) (by decide) ?_
    refine lv_iload_n hx hb dX9_reckon_75 rfl (lv_at hl 1 rfl) ?_
    refine lv_iload_n hx hb dX9_reckon_76 rfl (lv_at hl 2 rfl) ?_
    refine lv_icmp_le (tgt := 84) hx hb dX9_reckon_77 (by decide) (fun c10 => ?_) (fun c10 => ?_)
    · skip
      have c10 : x0.toInt ≤ y0.toInt := (z_le rfl rfl).mp c10
      refine lv_iconst (v := 0) hx hb dX9_reckon_84 (by decide) ?_
      have q11 : (0 : Int32).toInt = 0 := by decide
      exact W.iret (v := 0) hx hb hr (fun t ht hW => ⟨0, rfl, trivial, ht⟩) (fun q hq => by cases hq) dX9_reckon_85
    · skip
      have c10 : ¬ (x0.toInt ≤ y0.toInt) := fun q => c10 ((z_le rfl rfl).mpr q)
      refine lv_iconst (v := 1) hx hb dX9_reckon_80 (by decide) ?_
      refine lv_goto (tgt := 85) hx hb dX9_reckon_81 (by decide) ?_
      have q12 : (1 : Int32).toInt = 1 := by decide
      exact W.iret (v := 1) hx hb hr (fun t ht hW => ⟨1, rfl, trivial, ht⟩) (fun q hq => by cases hq) dX9_reckon_85
  · skip
    refine lv_tableOut (tgt := 86) hx hb dX9_reckon_1 (by omega) (by decide) ?_
    refine lv_iload_n hx hb dX9_reckon_86 rfl (lv_at hl 1 rfl) ?_
    refine lv_iload_n hx hb dX9_reckon_87 rfl (lv_at hl 2 rfl) ?_
    refine lv_icmp_ne (tgt := 95) hx hb dX9_reckon_88 (by decide) (fun c13 => ?_) (fun c13 => ?_)
    · skip
      have c13 : ¬ (x0.toInt = y0.toInt) := fun q => c13 ((z_eq rfl rfl).mpr q)
      refine lv_iconst (v := 0) hx hb dX9_reckon_95 (by decide) ?_
      have q14 : (0 : Int32).toInt = 0 := by decide
      exact W.iret (v := 0) hx hb hr (fun t ht hW => ⟨0, rfl, trivial, ht⟩) (fun q hq => by cases hq) dX9_reckon_96
    · skip
      have c13 : x0.toInt = y0.toInt := (z_eq rfl rfl).mp c13
      refine lv_iconst (v := 1) hx hb dX9_reckon_91 (by decide) ?_
      refine lv_goto (tgt := 96) hx hb dX9_reckon_92 (by decide) ?_
      have q15 : (1 : Int32).toInt = 1 := by decide
      exact W.iret (v := 1) hx hb hr (fun t ht hW => ⟨1, rfl, trivial, ht⟩) (fun q hq => by cases hq) dX9_reckon_96

set_option maxHeartbeats 4000000 in
set_option maxRecDepth 100000 in
theorem k_X9_isAlone (l : Launch) (g : zG) (ad : Nat → Nat) (me : Int32) (ct : Nat → va_E) (li : Int32) (p0 : Int32) (hl_li : 0 ≤ li.toInt ∧ li.toInt ≤ 31) (hl_p0 : 0 ≤ p0.toInt ∧ p0.toInt ≤ 15) (hI : IR g ad me ct) : Met l yX9_isAlone (zW yX9_isAlone cX9_isAlone 4 (some .boolean)) ({ frames := 1, cells := 0, slots := 0, locals := 24 }) (va_Pc [.ref (ad 0), .int li, .int p0] (zR g (zw 32 ad ct))) (vp_Si (fun r : Int32 => (r = 1) ∨ (r = 0))) 0 0 (fun _ => False) := by
  refine Met.ofW (cc := cX9_isAlone) (maxL := 4) (ret := (some .boolean)) (by decide) rfl ?_
  intro p e s m args below meth c s₁ B hml hv
  obtain ⟨rfl, hP, hK, hN⟩ := hv
  have hx := B.exec
  have hb := B.bytes
  have hr := B.returns
  have hg := zW.law (atoms_spec (ws := (zW yX9_isAlone cX9_isAlone 4 (some .boolean))) B.pre)
  have hown : s.vm.findClass RX9 = some m.cls := findClass_of_methodNamed B.named
  have hlocks := B.notSynchronized
  have hpe0 := hI.1.1
  have hl := lv_entry ([.ref (ad 0), .int li, .int p0]) (n := 4) (Nat.le_of_ble_eq_true rfl)
  rw [lg_entry_eq]
  generalize (lg_sl ([.ref (ad 0), .int li, .int p0]) ++ List.replicate (4 - (lg_sl ([.ref (ad 0), .int li, .int p0])).length) Slot.unset).toArray = ls at hl ⊢
  have hl : lv_has ls 4 [(0, .ref (ad 0)), (1, .int li), (2, .int p0)] := hl
  refine lv_iconst (v := 0) hx hb dX9_isAlone_0 (by decide) ?_
  refine lv_istore_n (lv' := [(3, .int 0), (0, .ref (ad 0)), (1, .int li), (2, .int p0)]) hx hb dX9_isAlone_1 rfl hl (by decide) rfl (fun ls hl => ?_)
  have loop2 : ∀ (n2 : Nat) (v3_2 : Int32) (ls : Array Slot), ((4 - v3_2.toInt : Int).toNat < n2) → (0 ≤ v3_2.toInt ∧ v3_2.toInt ≤ 4) → lv_has ls 4 [(3, .int v3_2), (0, .ref (ad 0)), (1, .int li), (2, .int p0)] → W p l e (headSpec (zW yX9_isAlone cX9_isAlone 4 (some .boolean)) ({ frames := 1, cells := 0, slots := 0, locals := 24 })).room s m ([.ref (ad 0), .int li, .int p0] : List Value).toArray below meth c s.heap [] 0 0 (MQ below (vp_Si (fun r : Int32 => (r = 1) ∨ (r = 0))) ([.ref (ad 0), .int li, .int p0] : List Value).toArray s 0 0 (fun _ => False)) (F0 m 2 ls []) := by
    intro n2
    induction n2 with
    | zero =>
      intro v3_2 ls hn2 b3_2 hl
      exact absurd hn2 (Nat.not_lt_zero _)
    | succ n2 ih2 =>
      intro v3_2 ls hn2 b3_2 hl
      refine lv_iload_n hx hb dX9_isAlone_2 rfl (lv_at hl 0 rfl) ?_
      refine lv_iconst (v := 4) hx hb dX9_isAlone_3 (by decide) ?_
      refine lv_icmp_ge (tgt := 43) hx hb dX9_isAlone_4 (by decide) (fun c1 => ?_) (fun c1 => ?_)
      · skip
        have c1 : 4 ≤ v3_2.toInt := (z_le (by decide : (4 : Int32).toInt = 4) rfl).mp c1
        refine lv_iconst (v := 1) hx hb dX9_isAlone_43 (by decide) ?_
        have q2 : (1 : Int32).toInt = 1 := by decide
        exact W.zret (v := 1) hx hb hr rfl (fun t ht hW => ⟨1, rfl, by first | exact Or.inl ⟨rfl, by omega⟩ | exact Or.inr ⟨rfl, by omega⟩ | exact Or.inl rfl | exact Or.inr rfl | exact Or.inl ⟨rfl, by omega, by omega⟩ | exact (z_01 (by omega) (by omega)).symm, ht⟩) (fun q hq => by cases hq) dX9_isAlone_44
      · skip
        have c1 : ¬ (4 ≤ v3_2.toInt) := fun q => c1 ((z_le (by decide : (4 : Int32).toInt = 4) rfl).mpr q)
        refine lv_aload_n hx hb dX9_isAlone_7 rfl (lv_at hl 1 rfl) ?_
        refine lv_iload_n hx hb dX9_isAlone_8 rfl (lv_at hl 0 rfl) ?_
        refine lv_aload_n hx hb dX9_isAlone_9 rfl (lv_at hl 1 rfl) ?_
        obtain ⟨bks4, lks5, gos6, shn7, tpd8, pl09, ln010, flt11, opn12, cmy13, wtg14, nm015, mst16, sus17, cut18, h19, h20, h21, h22, h23, h24, h25, h26, h27, h28, h29, h30, h31, h32, h33, h34, h35, h36, h37, h38, hs3⟩ := a9_0 hI.1
        refine va_get (D := g.1) (ci := 9) (v := .ref (ad 3)) (C := RX9) (T := TX9) (N := 47) hx hb hg inG9 hown hK hP 0 (zw_at (by omega) hs3) rfl 3 (by decide) (hg _ mm_961) (fun _ h9 => h9) rfl dX9_isAlone_10 ?_
        refine lv_iconst (v := 4) hx hb dX9_isAlone_13 (by decide) ?_
        refine lv_iload_n hx hb dX9_isAlone_14 rfl (lv_at hl 3 rfl) ?_
        refine lv_imul hx hb dX9_isAlone_15 ?_
        refine lv_topi (fun x39 ex39 => ?_)
        have tx39 : x39.toInt = 4 * p0.toInt := by rw [ex39]; exact z_mul (by decide : (4 : Int32).toInt = 4) rfl (by omega) (by omega)
        refine lv_iload_n hx hb dX9_isAlone_16 rfl (lv_at hl 0 rfl) ?_
        refine lv_iadd hx hb dX9_isAlone_17 ?_
        refine lv_topi (fun x40 ex40 => ?_)
        have tx40 : x40.toInt = x39.toInt + v3_2.toInt := by rw [ex40]; exact z_add rfl rfl (by omega) (by omega)
        obtain ⟨f42, hp43, hs41⟩ := a9_3 hI.1
        refine va_iald hx hb hK hP 3 0 (zw_at (by omega) hs41) rfl (z_in rfl (by omega) (by omega)) dX9_isAlone_18 ?_
        refine lv_topi (fun y44 ey44 => ?_)
        have hy44 := hp43 _ (z_clt (x := x40) rfl (by omega) (by omega))
        rw [← ey44] at hy44
        have hy44 : 0 ≤ y44.toInt ∧ y44.toInt ≤ 15 := hy44
        refine lv_aload_n hx hb dX9_isAlone_19 rfl (lv_at hl 1 rfl) ?_
        refine va_get (D := g.1) (ci := 9) (v := .ref (ad 7)) (C := RX9) (T := TX9) (N := 47) hx hb hg inG9 hown hK hP 0 (zw_at (by omega) hs3) rfl 11 (by decide) (hg _ mm_969) (fun _ h9 => h9) rfl dX9_isAlone_20 ?_
        refine lv_iconst (v := 4) hx hb dX9_isAlone_23 (by decide) ?_
        refine lv_iload_n hx hb dX9_isAlone_24 rfl (lv_at hl 2 rfl) ?_
        refine lv_imul hx hb dX9_isAlone_25 ?_
        refine lv_topi (fun x45 ex45 => ?_)
        have tx45 : x45.toInt = 4 * li.toInt := by rw [ex45]; exact z_mul (by decide : (4 : Int32).toInt = 4) rfl (by omega) (by omega)
        refine lv_iload_n hx hb dX9_isAlone_26 rfl (lv_at hl 0 rfl) ?_
        refine lv_iadd hx hb dX9_isAlone_27 ?_
        refine lv_topi (fun x46 ex46 => ?_)
        have tx46 : x46.toInt = x45.toInt + v3_2.toInt := by rw [ex46]; exact z_add rfl rfl (by omega) (by omega)
        obtain ⟨f48, hp49, hs47⟩ := a9_7 hI.1
        refine va_iald hx hb hK hP 7 0 (zw_at (by omega) hs47) rfl (z_in rfl (by omega) (by omega)) dX9_isAlone_28 ?_
        refine lv_topi (fun y50 ey50 => ?_)
        have hy50 := hp49 _ (z_clt (x := x46) rfl (by omega) (by omega))
        rw [← ey50] at hy50
        have hy50 : 0 ≤ y50.toInt ∧ y50.toInt ≤ 32 := hy50
        refine zc_i (va_runV (As := [.int v3_2, .int y44, .int y50]) (rest := []) ⟨hx, hb, hml, hown, hg⟩ (k_X9_isBelow l g ad me ct v3_2 y44 y50 (by first | omega | decide) (by first | omega | decide) hI) (cwV 3 hg (z_gV mm_1144 mm_1146 mm_54 mm_117 mm_1147) rfl rfl rfl (by decide +kernel) ⟨Nat.le_of_ble_eq_true rfl, Nat.le_of_ble_eq_true rfl⟩) ⟨(zR.pre [.ref (ad 0), .int v3_2, .int y44, .int y50] hP hK hN).1, va_recv hK hP (ci := 9) (q0 := 0) rfl (zw_at (by omega) hs3), (zR.pre [.ref (ad 0), .int v3_2, .int y44, .int y50] hP hK hN).2⟩ rfl rfl hl.1 rfl (lv_room (Nat.le_of_ble_eq_true rfl)) dX9_isAlone_29 ⟨Nat.le_of_ble_eq_true rfl, Nat.le_of_ble_eq_true rfl⟩) (fun r51 hr51 => ?_)
        rcases hr51 with hr51 | hr51
        · skip
          obtain rfl := hr51
          refine lv_if_ne (tgt := 37) hx hb dX9_isAlone_32 (by decide) (fun c52 => ?_) (fun c52 => ?_)
          · skip
            obtain ⟨x53, ex53⟩ : ∃ y : Int32, y = v3_2 + 1 := ⟨_, rfl⟩
            have tx53 : x53.toInt = v3_2.toInt + 1 := by rw [ex53]; exact z_add rfl (by decide : (1 : Int32).toInt = 1) (by omega) (by omega)
            refine lv_iinc (v := x53) (lv' := [(3, .int x53), (0, .ref (ad 0)), (1, .int li), (2, .int p0)]) hx hb dX9_isAlone_37 hl (k := 0) rfl (by rw [ex53]; rfl) (by decide) rfl (fun ls hl => ?_)
            refine lv_goto (tgt := 2) hx hb dX9_isAlone_40 (by decide) ?_
            exact ih2 x53 ls (by omega) (by first | assumption | omega | decide) (lv_sub hl [0, 1, 2, 3] rfl)
          · skip
            exact absurd c52 (by decide)
        · skip
          obtain rfl := hr51
          refine lv_if_ne (tgt := 37) hx hb dX9_isAlone_32 (by decide) (fun c54 => ?_) (fun c54 => ?_)
          · skip
            exact absurd c54 (by decide)
          · skip
            refine lv_iconst (v := 0) hx hb dX9_isAlone_35 (by decide) ?_
            have q55 : (0 : Int32).toInt = 0 := by decide
            exact W.zret (v := 0) hx hb hr rfl (fun t ht hW => ⟨0, rfl, by first | exact Or.inl ⟨rfl, by omega⟩ | exact Or.inr ⟨rfl, by omega⟩ | exact Or.inl rfl | exact Or.inr rfl | exact Or.inl ⟨rfl, by omega, by omega⟩ | exact (z_01 (by omega) (by omega)).symm, ht⟩) (fun q hq => by cases hq) dX9_isAlone_36
  exact loop2 ((4 - (0 : Int32).toInt : Int).toNat + 1) (0 : Int32) ls (by omega) (by first | assumption | omega | decide) (lv_sub hl [0, 1, 2, 3] rfl)

set_option maxHeartbeats 4000000 in
set_option maxRecDepth 100000 in
theorem k_X9_comesTo (l : Launch) (g : zG) (sz : Nat) (ad : Nat → Nat) (me : Int32) (ct : Nat → va_E) (fr : Int32) (to : Int32) (kh : Nat) (hl_fr : 0 ≤ fr.toInt ∧ fr.toInt ≤ 840) (hI : IR g ad me ct) (hh : kh < 8) (hfr : fr.toInt = 120 * (kh : Int)) (hto : to = zar (ct 15) kh) (hcg : cgood (ct 14) (ct 15) kh) : Met l yX9_comesTo (zW yX9_comesTo cX9_comesTo 8 (some .int)) ({ frames := 1, cells := 0, slots := 0, locals := 22 }) (va_Pc [.ref (ad 0), .int fr, .int to] (zA g (zw 32 ad ct) sz)) (va_Qi (fun (r : Int32) (_ : Unit) => (True)) (fun _ t => ∃ ct2 : Nat → va_E, zP g (zw 32 ad ct2) t.heap ∧ va_D (va_A (zw 32 ad ct) sz) (zw 32 ad ct2) ∧ IR g ad me ct2 ∧ (ct2 0 = ct 0) ∧ (ct2 5 = ct 5) ∧ (ct2 10 = ct 10) ∧ (ct2 14 = ct 14) ∧ (ct2 18 = ct 18) ∧ (ct2 19 = ct 19)) (va_A (zw 32 ad ct) sz)) 0 0 (va_A (zw 32 ad ct) sz) := by
  refine Met.ofW (cc := cX9_comesTo) (maxL := 8) (ret := (some .int)) (by decide) rfl ?_
  intro p e s m args below meth c s₁ B hml hv
  obtain ⟨rfl, hsz, hP, hK, hD0, hN⟩ := hv
  have hx := B.exec
  have hb := B.bytes
  have hr := B.returns
  have hg := zW.law (atoms_spec (ws := (zW yX9_comesTo cX9_comesTo 8 (some .int))) B.pre)
  have hown : s.vm.findClass RX9 = some m.cls := findClass_of_methodNamed B.named
  have hlocks := B.notSynchronized
  have hpe0 := hI.1.1
  subst hsz
  have hD := hD0.self (sz := s.heap.size)
  generalize hAe : va_A (zw 32 ad ct) s.heap.size = A at hD ⊢
  have hA : ∀ q : Nat, s.heap.size ≤ q → A q := fun q h => by rw [← hAe]; exact Or.inr h
  have hS : va_S A s.heap s.heap [] := va_S.rf
  have hl := lv_entry ([.ref (ad 0), .int fr, .int to]) (n := 8) (Nat.le_of_ble_eq_true rfl)
  rw [lg_entry_eq]
  generalize (lg_sl ([.ref (ad 0), .int fr, .int to]) ++ List.replicate (8 - (lg_sl ([.ref (ad 0), .int fr, .int to])).length) Slot.unset).toArray = ls at hl ⊢
  have hl : lv_has ls 8 [(0, .ref (ad 0)), (1, .int fr), (2, .int to)] := hl
  have hc0 : ct 0 = ct 0 := rfl
  have hc5 : ct 5 = ct 5 := rfl
  have hc10 : ct 10 = ct 10 := rfl
  have hc14 : ct 14 = ct 14 := rfl
  have hc18 : ct 18 = ct 18 := rfl
  have hc19 : ct 19 = ct 19 := rfl
  have rg_to := z_rng to
  obtain ⟨mC, hmC, htm, D, hD0, hst⟩ := cgood_z hcg
  rw [← hto] at htm
  have hDl := cwf_le hD0 hst
  refine lv_iconst (v := 0) hx hb dX9_comesTo_0 (by decide) ?_
  refine lv_istore_n (lv' := [(3, .int 0), (0, .ref (ad 0)), (1, .int fr), (2, .int to)]) hx hb dX9_comesTo_1 rfl hl (by decide) rfl (fun ls hl => ?_)
  refine lv_bipush (v := 120) hx hb dX9_comesTo_2 (by decide) ?_
  refine lv_iload_n hx hb dX9_comesTo_4 rfl (lv_at hl 2 rfl) ?_
  refine lv_bipush (v := 120) hx hb dX9_comesTo_5 (by decide) ?_
  refine lv_idiv hx hb dX9_comesTo_7 (by decide) ?_
  refine lv_topi (fun x1 ex1 => ?_)
  have tx1 := z_div (x := fr) (y := 120) rfl (by decide : (120 : Int32).toInt = 120) (by omega) (by omega)
  rw [← ex1] at tx1
  refine lv_imul hx hb dX9_comesTo_8 ?_
  refine lv_topi (fun x2 ex2 => ?_)
  have tx2 : x2.toInt = 120 * x1.toInt := by rw [ex2]; exact z_mul (by decide : (120 : Int32).toInt = 120) rfl (by omega) (by omega)
  refine lv_istore (lv' := [(4, .int x2), (3, .int 0), (0, .ref (ad 0)), (1, .int fr), (2, .int to)]) hx hb dX9_comesTo_9 hl (by decide) rfl (fun ls hl => ?_)
  refine lv_iload_n hx hb dX9_comesTo_11 rfl (lv_at hl 3 rfl) ?_
  refine lv_istore (lv' := [(5, .int fr), (4, .int x2), (3, .int 0), (0, .ref (ad 0)), (1, .int fr), (2, .int to)]) hx hb dX9_comesTo_12 hl (by decide) rfl (fun ls hl => ?_)
  have loop14 : ∀ (n14 : Nat) (v5_14 : Int32) (v3_14 : Int32) (ct3 : Nat → va_E) (H : Heap) (locs : List Loc) (ls : Array Slot), ((120 * (kh : Int) + (mC : Int) - v5_14.toInt : Int).toNat < n14) → (0 ≤ v3_14.toInt ∧ v3_14.toInt ≤ 120) → (0 ≤ v5_14.toInt ∧ v5_14.toInt ≤ 960) → (CTI D kh mC v5_14.toInt v3_14.toInt) → (ct3 0 = ct 0) → (ct3 5 = ct 5) → (ct3 10 = ct 10) → (ct3 14 = ct 14) → (ct3 18 = ct 18) → (ct3 19 = ct 19) → (IR g ad me ct3) → zP g (zw 32 ad ct3) H → va_D A (zw 32 ad ct3) → va_S A s.heap H locs → lv_has ls 8 [(5, .int v5_14), (4, .int x2), (3, .int v3_14), (0, .ref (ad 0)), (1, .int fr), (2, .int to)] → W p l e (headSpec (zW yX9_comesTo cX9_comesTo 8 (some .int)) ({ frames := 1, cells := 0, slots := 0, locals := 22 })).room s m ([.ref (ad 0), .int fr, .int to] : List Value).toArray below meth c H locs 0 0 (MQ below (va_Qi (fun (r : Int32) (_ : Unit) => (True)) (fun _ t => ∃ ct2 : Nat → va_E, zP g (zw 32 ad ct2) t.heap ∧ va_D A (zw 32 ad ct2) ∧ IR g ad me ct2 ∧ (ct2 0 = ct 0) ∧ (ct2 5 = ct 5) ∧ (ct2 10 = ct 10) ∧ (ct2 14 = ct 14) ∧ (ct2 18 = ct 18) ∧ (ct2 19 = ct 19)) A) ([.ref (ad 0), .int fr, .int to] : List Value).toArray s 0 0 A) (F0 m 14 ls []) := by
    intro n14
    induction n14 with
    | zero =>
      intro v5_14 v3_14 ct3 H locs ls hn14 b3_14 b5_14 j0_14 hc0 hc5 hc10 hc14 hc18 hc19 hI hP hD hS hl
      exact absurd hn14 (Nat.not_lt_zero _)
    | succ n14 ih14 =>
      intro v5_14 v3_14 ct3 H locs ls hn14 b3_14 b5_14 j0_14 hc0 hc5 hc10 hc14 hc18 hc19 hI hP hD hS hl
      obtain ⟨iC, hiC, hkC, hnC⟩ := j0_14
      have hDi := hDl iC hiC
      refine lv_iload hx hb dX9_comesTo_14 (lv_at hl 0 rfl) ?_
      refine lv_iload_n hx hb dX9_comesTo_16 rfl (lv_at hl 5 rfl) ?_
      refine lv_icmp_ge (tgt := 231) hx hb dX9_comesTo_17 (by decide) (fun c4 => ?_) (fun c4 => ?_)
      · skip
        have c4 : to.toInt ≤ v5_14.toInt := (z_le rfl rfl).mp c4
        refine lv_aload_n hx hb dX9_comesTo_231 rfl (lv_at hl 3 rfl) ?_
        obtain ⟨bks6, lks7, gos8, shn9, tpd10, pl011, ln012, flt13, opn14, cmy15, wtg16, nm017, mst18, sus19, cut20, h21, h22, h23, h24, h25, h26, h27, h28, h29, h30, h31, h32, h33, h34, h35, h36, h37, h38, h39, h40, hs5⟩ := a9_0 hI.1
        refine va_get (D := g.1) (ci := 9) (v := .ref (ad 17)) (C := RX9) (T := TX9) (N := 47) hx hb hg inG9 hown hK hP 0 (zw_at (by omega) hs5) rfl 29 (by decide) (hg _ mm_987) (fun _ h9 => h9) rfl dX9_comesTo_232 ?_
        refine lv_iconst (v := 0) hx hb dX9_comesTo_235 (by decide) ?_
        obtain ⟨f42, hs41⟩ := a9_17 hI.1
        refine va_iald hx hb hK hP 17 0 (zw_at (by omega) hs41) rfl (z_in (by decide : (0 : Int32).toInt = 0) (by omega) (by omega)) dX9_comesTo_236 ?_
        refine lv_topi (fun y43 ey43 => ?_)
        exact W.iret (v := y43) hx hb hr (fun t ht hW => ⟨⟨y43, (), rfl, trivial, ct3, by rw [ht]; exact hP, hD, hI, (by first | assumption | omega), (by first | assumption | omega), (by first | assumption | omega), (by first | assumption | omega), (by first | assumption | omega), (by first | assumption | omega)⟩, hS.F ht⟩) hS.2.2 dX9_comesTo_237
      · skip
        have c4 : ¬ (to.toInt ≤ v5_14.toInt) := fun q => c4 ((z_le rfl rfl).mpr q)
        refine lv_aload_n hx hb dX9_comesTo_20 rfl (lv_at hl 3 rfl) ?_
        obtain ⟨bks45, lks46, gos47, shn48, tpd49, pl050, ln051, flt52, opn53, cmy54, wtg55, nm056, mst57, sus58, cut59, h60, h61, h62, h63, h64, h65, h66, h67, h68, h69, h70, h71, h72, h73, h74, h75, h76, h77, h78, h79, hs44⟩ := a9_0 hI.1
        refine va_get (D := g.1) (ci := 9) (v := .ref (ad 14)) (C := RX9) (T := TX9) (N := 47) hx hb hg inG9 hown hK hP 0 (zw_at (by omega) hs44) rfl 26 (by decide) (hg _ mm_984) (fun _ h9 => h9) rfl dX9_comesTo_21 ?_
        refine lv_iload hx hb dX9_comesTo_24 (lv_at hl 0 rfl) ?_
        obtain ⟨f81, hs80⟩ := a9_14 hI.1
        refine va_iald hx hb hK hP 14 0 (zw_at (by omega) hs80) rfl (z_in rfl (by omega) (by omega)) dX9_comesTo_26 ?_
        refine lv_topi (fun y82 ey82 => ?_)
        have hcs := hst iC (by omega)
        unfold cstep at hcs
        have ey2 : zar (ct 14) (120 * kh + iC) = y82 := by rw [zar_of (hc14.symm.trans hs80), ey82, z_cl (k := 120 * kh + iC) (by omega)]
        simp only [ey2] at hcs
        have hy0 : 0 ≤ y82.toInt := hcs.1
        refine lv_ldc hx hb hown (hg _ mm_1227) dX9_comesTo_27 ?_
        refine lv_idiv hx hb dX9_comesTo_29 (by decide) ?_
        refine lv_topi (fun x83 ex83 => ?_)
        have tx83 := z_div (x := y82) (y := 1048576) rfl (by decide : (1048576 : Int32).toInt = 1048576) (by omega) (by omega)
        rw [← ex83] at tx83
        refine lv_istore (lv' := [(6, .int x83), (5, .int v5_14), (4, .int x2), (3, .int v3_14), (0, .ref (ad 0)), (1, .int fr), (2, .int to)]) hx hb dX9_comesTo_30 hl (by decide) rfl (fun ls hl => ?_)
        refine lv_aload_n hx hb dX9_comesTo_32 rfl (lv_at hl 4 rfl) ?_
        refine va_get (D := g.1) (ci := 9) (v := .ref (ad 14)) (C := RX9) (T := TX9) (N := 47) hx hb hg inG9 hown hK hP 0 (zw_at (by omega) hs44) rfl 26 (by decide) (hg _ mm_984) (fun _ h9 => h9) rfl dX9_comesTo_33 ?_
        refine lv_iload hx hb dX9_comesTo_36 (lv_at hl 1 rfl) ?_
        refine va_iald hx hb hK hP 14 0 (zw_at (by omega) hs80) rfl (z_in rfl (by omega) (by omega)) dX9_comesTo_38 ?_
        refine lv_topi (fun y84 ey84 => ?_)
        obtain rfl : y82 = y84 := ey82.trans ey84.symm
        refine lv_ldc hx hb hown (hg _ mm_1227) dX9_comesTo_39 ?_
        refine lv_irem hx hb dX9_comesTo_41 (by decide) ?_
        refine lv_topi (fun x85 ex85 => ?_)
        have tx85 := z_rem (x := y82) (y := 1048576) rfl (by decide : (1048576 : Int32).toInt = 1048576) (by omega) (by omega)
        rw [← ex85] at tx85
        refine lv_istore (lv' := [(7, .int x85), (6, .int x83), (5, .int v5_14), (4, .int x2), (3, .int v3_14), (0, .ref (ad 0)), (1, .int fr), (2, .int to)]) hx hb dX9_comesTo_42 hl (by decide) rfl (fun ls hl => ?_)
        refine lv_iload hx hb dX9_comesTo_44 (lv_at hl 2 rfl) ?_
        refine lv_iconst (v := 1) hx hb dX9_comesTo_46 (by decide) ?_
        refine lv_iadd hx hb dX9_comesTo_47 ?_
        refine lv_topi (fun x86 ex86 => ?_)
        have tx86 : x86.toInt = v5_14.toInt + 1 := by rw [ex86]; exact z_add rfl (by decide : (1 : Int32).toInt = 1) (by omega) (by omega)
        refine lv_istore (lv' := [(5, .int x86), (7, .int x85), (6, .int x83), (4, .int x2), (3, .int v3_14), (0, .ref (ad 0)), (1, .int fr), (2, .int to)]) hx hb dX9_comesTo_48 hl (by decide) rfl (fun ls hl => ?_)
        refine lv_iload hx hb dX9_comesTo_50 (lv_at hl 2 rfl) ?_
        refine lv_if_eq (tgt := 61) hx hb dX9_comesTo_52 (by decide) (fun c87 => ?_) (fun c87 => ?_)
        · skip
          have c87 : x83.toInt = 0 := (z_eq rfl (by decide : (0 : Int32).toInt = 0)).mp c87
          refine lv_aload_n hx hb dX9_comesTo_61 rfl (lv_at hl 5 rfl) ?_
          refine va_get (D := g.1) (ci := 9) (v := .ref (ad 17)) (C := RX9) (T := TX9) (N := 47) hx hb hg inG9 hown hK hP 0 (zw_at (by omega) hs44) rfl 29 (by decide) (hg _ mm_987) (fun _ h9 => h9) rfl dX9_comesTo_62 ?_
          refine lv_iload_n hx hb dX9_comesTo_65 rfl (lv_at hl 4 rfl) ?_
          refine lv_iload hx hb dX9_comesTo_66 (lv_at hl 2 rfl) ?_
          refine lv_if_ne (tgt := 76) hx hb dX9_comesTo_68 (by decide) (fun c88 => ?_) (fun c88 => ?_)
          · skip
            have c88 : ¬ (x83.toInt = 0) := fun q => c88 ((z_eq rfl (by decide : (0 : Int32).toInt = 0)).mpr q)
            refine lv_aload_n hx hb dX9_comesTo_76 rfl (lv_at hl 5 rfl) ?_
            refine va_get (D := g.1) (ci := 9) (v := .ref (ad 18)) (C := RX9) (T := TX9) (N := 47) hx hb hg inG9 hown hK hP 0 (zw_at (by omega) hs44) rfl 30 (by decide) (hg _ mm_988) (fun _ h9 => h9) rfl dX9_comesTo_77 ?_
            refine lv_iload hx hb dX9_comesTo_80 (lv_at hl 1 rfl) ?_
            obtain ⟨f90, hs89⟩ := a9_18 hI.1
            refine va_iald hx hb hK hP 18 0 (zw_at (by omega) hs89) rfl (z_in rfl (by omega) (by omega)) dX9_comesTo_82 ?_
            refine lv_topi (fun y91 ey91 => ?_)
            obtain ⟨f93, hs92⟩ := a9_17 hI.1
            refine va_iast hx hb hK hP hD hS 17 0 (zw_at (by omega) hs92) rfl (z_in rfl (by omega) (by omega)) dX9_comesTo_83 (fun H locs hP hD hS => ?_)
            have hP : zP g ((zw 32 ad ct3).set 17 (ad 17, .inl (g.2 0, 120, .inl (upd f93 (Int32.toNatClampNeg v3_14) y91)))) H := hP
            have hD : va_D A ((zw 32 ad ct3).set 17 (ad 17, .inl (g.2 0, 120, .inl (upd f93 (Int32.toNatClampNeg v3_14) y91)))) := hD
            rw [zw_set (by omega)] at hP hD
            obtain ⟨ct95, ec96⟩ : ∃ z : Nat → va_E, z = va_up ct3 17 (.inl (g.2 0, 120, .inl (upd f93 (Int32.toNatClampNeg v3_14) y91))) := ⟨_, rfl⟩
            rw [← ec96] at hP hD
            have hI : IR g ad me ct95 := by rw [ec96]; exact upR hI (by decide) (i9_17 ⟨_, rfl⟩)
            have hc0 : ct95 0 = ct 0 := by rw [ec96]; exact (va_up_ne _ _ (by omega)).trans hc0
            have hc5 : ct95 5 = ct 5 := by rw [ec96]; exact (va_up_ne _ _ (by omega)).trans hc5
            have hc10 : ct95 10 = ct 10 := by rw [ec96]; exact (va_up_ne _ _ (by omega)).trans hc10
            have hc14 : ct95 14 = ct 14 := by rw [ec96]; exact (va_up_ne _ _ (by omega)).trans hc14
            have hc18 : ct95 18 = ct 18 := by rw [ec96]; exact (va_up_ne _ _ (by omega)).trans hc18
            have hc19 : ct95 19 = ct 19 := by rw [ec96]; exact (va_up_ne _ _ (by omega)).trans hc19
            have hs97 : ct95 0 = .inr (9, [.int me, .ref (ad 1), .ref (ad 2), .ref (ad 3), .ref (ad 4), .int bks45, .int lks46, .int gos47, .int shn48, .ref (ad 5), .ref (ad 6), .ref (ad 7), .ref (ad 8), .ref (ad 9), .ref (ad 10), .ref (ad 11), .int tpd49, .int pl050, .int ln051, .int flt52, .int opn53, .int cmy54, .int wtg55, .int nm056, .ref (ad 12), .ref (ad 13), .ref (ad 14), .ref (ad 15), .ref (ad 16), .ref (ad 17), .ref (ad 18), .ref (ad 19), .ref (ad 20), .ref (ad 21), .ref (ad 22), .ref (ad 23), .ref (ad 24), .ref (ad 25), .ref (ad 26), .ref (ad 27), .int mst57, .int sus58, .ref (ad 28), .ref (ad 29), .ref (ad 30), .ref (ad 31), .int cut59]) := by rw [ec96, va_up_ne _ _ (by omega)]; exact hs44
            have hs98 : ct95 14 = .inl (g.2 0, 960, .inl f81) := by rw [ec96, va_up_ne _ _ (by omega)]; exact hs80
            have hs99 : ct95 18 = .inl (g.2 0, 7, .inl f90) := by rw [ec96, va_up_ne _ _ (by omega)]; exact hs89
            have hs100 : ct95 17 = .inl (g.2 0, 120, .inl (upd f93 (Int32.toNatClampNeg v3_14) y91)) := by rw [ec96]; exact va_up_self _ _ _
            refine lv_iload_n hx hb dX9_comesTo_84 rfl (lv_at hl 4 rfl) ?_
            refine lv_iconst (v := 1) hx hb dX9_comesTo_85 (by decide) ?_
            refine lv_iadd hx hb dX9_comesTo_86 ?_
            refine lv_topi (fun x101 ex101 => ?_)
            have tx101 : x101.toInt = v3_14.toInt + 1 := by rw [ex101]; exact z_add rfl (by decide : (1 : Int32).toInt = 1) (by omega) (by omega)
            refine lv_istore_n (lv' := [(3, .int x101), (5, .int x86), (7, .int x85), (6, .int x83), (4, .int x2), (0, .ref (ad 0)), (1, .int fr), (2, .int to)]) hx hb dX9_comesTo_87 rfl hl (by decide) rfl (fun ls hl => ?_)
            refine lv_goto (tgt := 228) hx hb dX9_comesTo_88 (by decide) ?_
            have hct : CTI D kh mC x86.toInt x101.toInt := by first | exact ⟨iC + 1, by omega, by omega, by omega⟩ | exact ⟨(y82.toInt % 1048576).toNat, by omega, by omega, by omega⟩
            refine lv_goto (tgt := 14) hx hb dX9_comesTo_228 (by decide) ?_
            exact ih14 x86 x101 ct95 _ _ ls (by omega) (by first | assumption | omega | decide) (by first | assumption | omega | decide) (by first | assumption | omega | decide) (by first | assumption | omega | decide) (by first | assumption | omega | decide) (by first | assumption | omega | decide) (by first | assumption | omega | decide) (by first | assumption | omega | decide) (by first | assumption | omega | decide) hI hP hD hS (lv_sub hl [1, 4, 0, 5, 6, 7] rfl)
          · skip
            have c88 : x83.toInt = 0 := (z_eq rfl (by decide : (0 : Int32).toInt = 0)).mp c88
            refine lv_iload hx hb dX9_comesTo_71 (lv_at hl 1 rfl) ?_
            refine lv_goto (tgt := 83) hx hb dX9_comesTo_73 (by decide) ?_
            obtain ⟨f103, hs102⟩ := a9_17 hI.1
            refine va_iast hx hb hK hP hD hS 17 0 (zw_at (by omega) hs102) rfl (z_in rfl (by omega) (by omega)) dX9_comesTo_83 (fun H locs hP hD hS => ?_)
            have hP : zP g ((zw 32 ad ct3).set 17 (ad 17, .inl (g.2 0, 120, .inl (upd f103 (Int32.toNatClampNeg v3_14) x85)))) H := hP
            have hD : va_D A ((zw 32 ad ct3).set 17 (ad 17, .inl (g.2 0, 120, .inl (upd f103 (Int32.toNatClampNeg v3_14) x85)))) := hD
            rw [zw_set (by omega)] at hP hD
            obtain ⟨ct105, ec106⟩ : ∃ z : Nat → va_E, z = va_up ct3 17 (.inl (g.2 0, 120, .inl (upd f103 (Int32.toNatClampNeg v3_14) x85))) := ⟨_, rfl⟩
            rw [← ec106] at hP hD
            have hI : IR g ad me ct105 := by rw [ec106]; exact upR hI (by decide) (i9_17 ⟨_, rfl⟩)
            have hc0 : ct105 0 = ct 0 := by rw [ec106]; exact (va_up_ne _ _ (by omega)).trans hc0
            have hc5 : ct105 5 = ct 5 := by rw [ec106]; exact (va_up_ne _ _ (by omega)).trans hc5
            have hc10 : ct105 10 = ct 10 := by rw [ec106]; exact (va_up_ne _ _ (by omega)).trans hc10
            have hc14 : ct105 14 = ct 14 := by rw [ec106]; exact (va_up_ne _ _ (by omega)).trans hc14
            have hc18 : ct105 18 = ct 18 := by rw [ec106]; exact (va_up_ne _ _ (by omega)).trans hc18
            have hc19 : ct105 19 = ct 19 := by rw [ec106]; exact (va_up_ne _ _ (by omega)).trans hc19
            have hs107 : ct105 0 = .inr (9, [.int me, .ref (ad 1), .ref (ad 2), .ref (ad 3), .ref (ad 4), .int bks45, .int lks46, .int gos47, .int shn48, .ref (ad 5), .ref (ad 6), .ref (ad 7), .ref (ad 8), .ref (ad 9), .ref (ad 10), .ref (ad 11), .int tpd49, .int pl050, .int ln051, .int flt52, .int opn53, .int cmy54, .int wtg55, .int nm056, .ref (ad 12), .ref (ad 13), .ref (ad 14), .ref (ad 15), .ref (ad 16), .ref (ad 17), .ref (ad 18), .ref (ad 19), .ref (ad 20), .ref (ad 21), .ref (ad 22), .ref (ad 23), .ref (ad 24), .ref (ad 25), .ref (ad 26), .ref (ad 27), .int mst57, .int sus58, .ref (ad 28), .ref (ad 29), .ref (ad 30), .ref (ad 31), .int cut59]) := by rw [ec106, va_up_ne _ _ (by omega)]; exact hs44
            have hs108 : ct105 14 = .inl (g.2 0, 960, .inl f81) := by rw [ec106, va_up_ne _ _ (by omega)]; exact hs80
            have hs109 : ct105 17 = .inl (g.2 0, 120, .inl (upd f103 (Int32.toNatClampNeg v3_14) x85)) := by rw [ec106]; exact va_up_self _ _ _
            refine lv_iload_n hx hb dX9_comesTo_84 rfl (lv_at hl 4 rfl) ?_
            refine lv_iconst (v := 1) hx hb dX9_comesTo_85 (by decide) ?_
            refine lv_iadd hx hb dX9_comesTo_86 ?_
            refine lv_topi (fun x110 ex110 => ?_)
            have tx110 : x110.toInt = v3_14.toInt + 1 := by rw [ex110]; exact z_add rfl (by decide : (1 : Int32).toInt = 1) (by omega) (by omega)
            refine lv_istore_n (lv' := [(3, .int x110), (5, .int x86), (7, .int x85), (6, .int x83), (4, .int x2), (0, .ref (ad 0)), (1, .int fr), (2, .int to)]) hx hb dX9_comesTo_87 rfl hl (by decide) rfl (fun ls hl => ?_)
            refine lv_goto (tgt := 228) hx hb dX9_comesTo_88 (by decide) ?_
            have hct : CTI D kh mC x86.toInt x110.toInt := by first | exact ⟨iC + 1, by omega, by omega, by omega⟩ | exact ⟨(y82.toInt % 1048576).toNat, by omega, by omega, by omega⟩
            refine lv_goto (tgt := 14) hx hb dX9_comesTo_228 (by decide) ?_
            exact ih14 x86 x110 ct105 _ _ ls (by omega) (by first | assumption | omega | decide) (by first | assumption | omega | decide) (by first | assumption | omega | decide) (by first | assumption | omega | decide) (by first | assumption | omega | decide) (by first | assumption | omega | decide) (by first | assumption | omega | decide) (by first | assumption | omega | decide) (by first | assumption | omega | decide) hI hP hD hS (lv_sub hl [1, 4, 0, 5, 6, 7] rfl)
        · skip
          have c87 : ¬ (x83.toInt = 0) := fun q => c87 ((z_eq rfl (by decide : (0 : Int32).toInt = 0)).mpr q)
          refine lv_iload hx hb dX9_comesTo_55 (lv_at hl 2 rfl) ?_
          refine lv_iconst (v := 1) hx hb dX9_comesTo_57 (by decide) ?_
          refine lv_icmp_ne (tgt := 91) hx hb dX9_comesTo_58 (by decide) (fun c111 => ?_) (fun c111 => ?_)
          · skip
            have c111 : ¬ (x83.toInt = 1) := fun q => c111 ((z_eq rfl (by decide : (1 : Int32).toInt = 1)).mpr q)
            refine lv_iload hx hb dX9_comesTo_91 (lv_at hl 2 rfl) ?_
            refine lv_bipush (v := 10) hx hb dX9_comesTo_93 (by decide) ?_
            refine lv_icmp_ne (tgt := 119) hx hb dX9_comesTo_95 (by decide) (fun c112 => ?_) (fun c112 => ?_)
            · skip
              have c112 : ¬ (x83.toInt = 10) := fun q => c112 ((z_eq rfl (by decide : (10 : Int32).toInt = 10)).mpr q)
              refine lv_iload hx hb dX9_comesTo_119 (lv_at hl 2 rfl) ?_
              refine lv_bipush (v := 11) hx hb dX9_comesTo_121 (by decide) ?_
              refine lv_icmp_eq (tgt := 133) hx hb dX9_comesTo_123 (by decide) (fun c113 => ?_) (fun c113 => ?_)
              · skip
                have c113 : x83.toInt = 11 := (z_eq rfl (by decide : (11 : Int32).toInt = 11)).mp c113
                refine lv_aload_n hx hb dX9_comesTo_133 rfl (lv_at hl 5 rfl) ?_
                refine va_get (D := g.1) (ci := 9) (v := .ref (ad 17)) (C := RX9) (T := TX9) (N := 47) hx hb hg inG9 hown hK hP 0 (zw_at (by omega) hs44) rfl 29 (by decide) (hg _ mm_987) (fun _ h9 => h9) rfl dX9_comesTo_134 ?_
                refine lv_iload_n hx hb dX9_comesTo_137 rfl (lv_at hl 4 rfl) ?_
                refine lv_iconst (v := 1) hx hb dX9_comesTo_138 (by decide) ?_
                refine lv_isub hx hb dX9_comesTo_139 ?_
                refine lv_topi (fun x114 ex114 => ?_)
                have tx114 : x114.toInt = v3_14.toInt - 1 := by rw [ex114]; exact z_sub rfl (by decide : (1 : Int32).toInt = 1) (by omega) (by omega)
                obtain ⟨f116, hs115⟩ := a9_17 hI.1
                refine va_iald hx hb hK hP 17 0 (zw_at (by omega) hs115) rfl (z_in rfl (by omega) (by omega)) dX9_comesTo_140 ?_
                refine lv_topi (fun y117 ey117 => ?_)
                refine lv_iload hx hb dX9_comesTo_141 (lv_at hl 2 rfl) ?_
                refine lv_bipush (v := 12) hx hb dX9_comesTo_143 (by decide) ?_
                refine lv_icmp_ne (tgt := 152) hx hb dX9_comesTo_145 (by decide) (fun c118 => ?_) (fun c118 => ?_)
                · skip
                  have c118 : ¬ (x83.toInt = 12) := fun q => c118 ((z_eq rfl (by decide : (12 : Int32).toInt = 12)).mpr q)
                  refine lv_iconst (v := 0) hx hb dX9_comesTo_152 (by decide) ?_
                  refine lv_icmp_ne (tgt := 166) hx hb dX9_comesTo_153 (by decide) (fun c119 => ?_) (fun c119 => ?_)
                  · skip
                    have c119 : ¬ (y117.toInt = 0) := fun q => c119 ((z_eq rfl (by decide : (0 : Int32).toInt = 0)).mpr q)
                    refine lv_iload_n hx hb dX9_comesTo_166 rfl (lv_at hl 4 rfl) ?_
                    refine lv_iconst (v := 1) hx hb dX9_comesTo_167 (by decide) ?_
                    refine lv_isub hx hb dX9_comesTo_168 ?_
                    refine lv_topi (fun x120 ex120 => ?_)
                    obtain rfl : x114 = x120 := ex114.trans ex120.symm
                    refine lv_istore_n (lv' := [(3, .int x114), (5, .int x86), (7, .int x85), (6, .int x83), (4, .int x2), (0, .ref (ad 0)), (1, .int fr), (2, .int to)]) hx hb dX9_comesTo_169 rfl hl (by decide) rfl (fun ls hl => ?_)
                    refine lv_goto (tgt := 228) hx hb dX9_comesTo_170 (by decide) ?_
                    have hct : CTI D kh mC x86.toInt x114.toInt := by first | exact ⟨iC + 1, by omega, by omega, by omega⟩ | exact ⟨(y82.toInt % 1048576).toNat, by omega, by omega, by omega⟩
                    refine lv_goto (tgt := 14) hx hb dX9_comesTo_228 (by decide) ?_
                    exact ih14 x86 x114 ct3 _ _ ls (by omega) (by first | assumption | omega | decide) (by first | assumption | omega | decide) (by first | assumption | omega | decide) (by first | assumption | omega | decide) (by first | assumption | omega | decide) (by first | assumption | omega | decide) (by first | assumption | omega | decide) (by first | assumption | omega | decide) (by first | assumption | omega | decide) hI hP hD hS (lv_sub hl [1, 4, 0, 5, 6, 7] rfl)
                  · skip
                    have c119 : y117.toInt = 0 := (z_eq rfl (by decide : (0 : Int32).toInt = 0)).mp c119
                    refine lv_iload hx hb dX9_comesTo_156 (lv_at hl 3 rfl) ?_
                    refine lv_iload hx hb dX9_comesTo_158 (lv_at hl 1 rfl) ?_
                    refine lv_iadd hx hb dX9_comesTo_160 ?_
                    refine lv_topi (fun x121 ex121 => ?_)
                    have tx121 : x121.toInt = x2.toInt + x85.toInt := by rw [ex121]; exact z_add rfl rfl (by omega) (by omega)
                    refine lv_istore (lv' := [(5, .int x121), (7, .int x85), (6, .int x83), (4, .int x2), (3, .int v3_14), (0, .ref (ad 0)), (1, .int fr), (2, .int to)]) hx hb dX9_comesTo_161 hl (by decide) rfl (fun ls hl => ?_)
                    refine lv_goto (tgt := 228) hx hb dX9_comesTo_163 (by decide) ?_
                    have hct : CTI D kh mC x121.toInt v3_14.toInt := by first | exact ⟨iC + 1, by omega, by omega, by omega⟩ | exact ⟨(y82.toInt % 1048576).toNat, by omega, by omega, by omega⟩
                    refine lv_goto (tgt := 14) hx hb dX9_comesTo_228 (by decide) ?_
                    exact ih14 x121 v3_14 ct3 _ _ ls (by omega) (by first | assumption | omega | decide) (by first | assumption | omega | decide) (by first | assumption | omega | decide) (by first | assumption | omega | decide) (by first | assumption | omega | decide) (by first | assumption | omega | decide) (by first | assumption | omega | decide) (by first | assumption | omega | decide) (by first | assumption | omega | decide) hI hP hD hS (lv_sub hl [0, 3, 4, 5, 6, 7] rfl)
                · skip
                  have c118 : x83.toInt = 12 := (z_eq rfl (by decide : (12 : Int32).toInt = 12)).mp c118
                  exfalso
                  omega
              · skip
                have c113 : ¬ (x83.toInt = 11) := fun q => c113 ((z_eq rfl (by decide : (11 : Int32).toInt = 11)).mpr q)
                refine lv_iload hx hb dX9_comesTo_126 (lv_at hl 2 rfl) ?_
                refine lv_bipush (v := 12) hx hb dX9_comesTo_128 (by decide) ?_
                refine lv_icmp_ne (tgt := 173) hx hb dX9_comesTo_130 (by decide) (fun c122 => ?_) (fun c122 => ?_)
                · skip
                  have c122 : ¬ (x83.toInt = 12) := fun q => c122 ((z_eq rfl (by decide : (12 : Int32).toInt = 12)).mpr q)
                  refine lv_iload_n hx hb dX9_comesTo_173 rfl (lv_at hl 4 rfl) ?_
                  refine lv_iconst (v := 1) hx hb dX9_comesTo_174 (by decide) ?_
                  refine lv_isub hx hb dX9_comesTo_175 ?_
                  refine lv_topi (fun x123 ex123 => ?_)
                  have tx123 : x123.toInt = v3_14.toInt - 1 := by rw [ex123]; exact z_sub rfl (by decide : (1 : Int32).toInt = 1) (by omega) (by omega)
                  refine lv_istore_n (lv' := [(3, .int x123), (5, .int x86), (7, .int x85), (6, .int x83), (4, .int x2), (0, .ref (ad 0)), (1, .int fr), (2, .int to)]) hx hb dX9_comesTo_176 rfl hl (by decide) rfl (fun ls hl => ?_)
                  refine lv_iload hx hb dX9_comesTo_177 (lv_at hl 3 rfl) ?_
                  refine lv_iconst (v := 5) hx hb dX9_comesTo_179 (by decide) ?_
                  refine lv_icmp_eq (tgt := 190) hx hb dX9_comesTo_180 (by decide) (fun c124 => ?_) (fun c124 => ?_)
                  · skip
                    have c124 : x83.toInt = 5 := (z_eq rfl (by decide : (5 : Int32).toInt = 5)).mp c124
                    refine lv_aload_n hx hb dX9_comesTo_190 rfl (lv_at hl 5 rfl) ?_
                    refine va_get (D := g.1) (ci := 9) (v := .ref (ad 17)) (C := RX9) (T := TX9) (N := 47) hx hb hg inG9 hown hK hP 0 (zw_at (by omega) hs44) rfl 29 (by decide) (hg _ mm_987) (fun _ h9 => h9) rfl dX9_comesTo_191 ?_
                    refine lv_iload_n hx hb dX9_comesTo_194 rfl (lv_at hl 0 rfl) ?_
                    obtain ⟨f126, hs125⟩ := a9_17 hI.1
                    refine va_iald hx hb hK hP 17 0 (zw_at (by omega) hs125) rfl (z_in rfl (by omega) (by omega)) dX9_comesTo_195 ?_
                    refine lv_topi (fun y127 ey127 => ?_)
                    refine lv_if_ne (tgt := 201) hx hb dX9_comesTo_196 (by decide) (fun c128 => ?_) (fun c128 => ?_)
                    · skip
                      have c128 : ¬ (y127.toInt = 0) := fun q => c128 ((z_eq rfl (by decide : (0 : Int32).toInt = 0)).mpr q)
                      refine lv_aload_n hx hb dX9_comesTo_201 rfl (lv_at hl 5 rfl) ?_
                      refine va_get (D := g.1) (ci := 9) (v := .ref (ad 17)) (C := RX9) (T := TX9) (N := 47) hx hb hg inG9 hown hK hP 0 (zw_at (by omega) hs44) rfl 29 (by decide) (hg _ mm_987) (fun _ h9 => h9) rfl dX9_comesTo_202 ?_
                      refine lv_iload_n hx hb dX9_comesTo_205 rfl (lv_at hl 0 rfl) ?_
                      refine lv_iconst (v := 1) hx hb dX9_comesTo_206 (by decide) ?_
                      refine lv_isub hx hb dX9_comesTo_207 ?_
                      refine lv_topi (fun x129 ex129 => ?_)
                      have tx129 : x129.toInt = x123.toInt - 1 := by rw [ex129]; exact z_sub rfl (by decide : (1 : Int32).toInt = 1) (by omega) (by omega)
                      refine lv_iload hx hb dX9_comesTo_208 (lv_at hl 3 rfl) ?_
                      refine lv_aload_n hx hb dX9_comesTo_210 rfl (lv_at hl 5 rfl) ?_
                      refine va_get (D := g.1) (ci := 9) (v := .ref (ad 17)) (C := RX9) (T := TX9) (N := 47) hx hb hg inG9 hown hK hP 0 (zw_at (by omega) hs44) rfl 29 (by decide) (hg _ mm_987) (fun _ h9 => h9) rfl dX9_comesTo_211 ?_
                      refine lv_iload_n hx hb dX9_comesTo_214 rfl (lv_at hl 0 rfl) ?_
                      refine lv_iconst (v := 1) hx hb dX9_comesTo_215 (by decide) ?_
                      refine lv_isub hx hb dX9_comesTo_216 ?_
                      refine lv_topi (fun x130 ex130 => ?_)
                      obtain rfl : x129 = x130 := ex129.trans ex130.symm
                      refine va_iald hx hb hK hP 17 0 (zw_at (by omega) hs125) rfl (z_in rfl (by omega) (by omega)) dX9_comesTo_217 ?_
                      refine lv_topi (fun y131 ey131 => ?_)
                      refine lv_aload_n hx hb dX9_comesTo_218 rfl (lv_at hl 5 rfl) ?_
                      refine va_get (D := g.1) (ci := 9) (v := .ref (ad 17)) (C := RX9) (T := TX9) (N := 47) hx hb hg inG9 hown hK hP 0 (zw_at (by omega) hs44) rfl 29 (by decide) (hg _ mm_987) (fun _ h9 => h9) rfl dX9_comesTo_219 ?_
                      refine lv_iload_n hx hb dX9_comesTo_222 rfl (lv_at hl 0 rfl) ?_
                      refine va_iald hx hb hK hP 17 0 (zw_at (by omega) hs125) rfl (z_in rfl (by omega) (by omega)) dX9_comesTo_223 ?_
                      refine lv_topi (fun y132 ey132 => ?_)
                      obtain rfl : y127 = y132 := ey127.trans ey132.symm
                      refine zc_i (va_runS (As := [.int x83, .int y131, .int y127]) (rest := [.int x129, .ref (ad 17)]) ⟨hx, hb, hml, hown, hg⟩ (k_X9_reckon l g ad me ct3 x83 y131 y127 hI (by first | assumption | omega | decide)) (va_cwS 3 hg (z_gS mm_1321 mm_1322 mm_117 mm_1323) rfl rfl rfl (by decide +kernel) ⟨Nat.le_of_ble_eq_true rfl, Nat.le_of_ble_eq_true rfl⟩) (zR.pre [.int x83, .int y131, .int y127] hP hK hN) rfl rfl hl.1 rfl (lv_room (Nat.le_of_ble_eq_true rfl)) dX9_comesTo_224 ⟨Nat.le_of_ble_eq_true rfl, Nat.le_of_ble_eq_true rfl⟩) (fun r133 hr133 => ?_)
                      refine va_iast hx hb hK hP hD hS 17 0 (zw_at (by omega) hs125) rfl (z_in rfl (by omega) (by omega)) dX9_comesTo_227 (fun H locs hP hD hS => ?_)
                      have hP : zP g ((zw 32 ad ct3).set 17 (ad 17, .inl (g.2 0, 120, .inl (upd f126 (Int32.toNatClampNeg x129) r133)))) H := hP
                      have hD : va_D A ((zw 32 ad ct3).set 17 (ad 17, .inl (g.2 0, 120, .inl (upd f126 (Int32.toNatClampNeg x129) r133)))) := hD
                      rw [zw_set (by omega)] at hP hD
                      obtain ⟨ct135, ec136⟩ : ∃ z : Nat → va_E, z = va_up ct3 17 (.inl (g.2 0, 120, .inl (upd f126 (Int32.toNatClampNeg x129) r133))) := ⟨_, rfl⟩
                      rw [← ec136] at hP hD
                      have hI : IR g ad me ct135 := by rw [ec136]; exact upR hI (by decide) (i9_17 ⟨_, rfl⟩)
                      have hc0 : ct135 0 = ct 0 := by rw [ec136]; exact (va_up_ne _ _ (by omega)).trans hc0
                      have hc5 : ct135 5 = ct 5 := by rw [ec136]; exact (va_up_ne _ _ (by omega)).trans hc5
                      have hc10 : ct135 10 = ct 10 := by rw [ec136]; exact (va_up_ne _ _ (by omega)).trans hc10
                      have hc14 : ct135 14 = ct 14 := by rw [ec136]; exact (va_up_ne _ _ (by omega)).trans hc14
                      have hc18 : ct135 18 = ct 18 := by rw [ec136]; exact (va_up_ne _ _ (by omega)).trans hc18
                      have hc19 : ct135 19 = ct 19 := by rw [ec136]; exact (va_up_ne _ _ (by omega)).trans hc19
                      have hs137 : ct135 0 = .inr (9, [.int me, .ref (ad 1), .ref (ad 2), .ref (ad 3), .ref (ad 4), .int bks45, .int lks46, .int gos47, .int shn48, .ref (ad 5), .ref (ad 6), .ref (ad 7), .ref (ad 8), .ref (ad 9), .ref (ad 10), .ref (ad 11), .int tpd49, .int pl050, .int ln051, .int flt52, .int opn53, .int cmy54, .int wtg55, .int nm056, .ref (ad 12), .ref (ad 13), .ref (ad 14), .ref (ad 15), .ref (ad 16), .ref (ad 17), .ref (ad 18), .ref (ad 19), .ref (ad 20), .ref (ad 21), .ref (ad 22), .ref (ad 23), .ref (ad 24), .ref (ad 25), .ref (ad 26), .ref (ad 27), .int mst57, .int sus58, .ref (ad 28), .ref (ad 29), .ref (ad 30), .ref (ad 31), .int cut59]) := by rw [ec136, va_up_ne _ _ (by omega)]; exact hs44
                      have hs138 : ct135 14 = .inl (g.2 0, 960, .inl f81) := by rw [ec136, va_up_ne _ _ (by omega)]; exact hs80
                      have hs139 : ct135 17 = .inl (g.2 0, 120, .inl (upd f126 (Int32.toNatClampNeg x129) r133)) := by rw [ec136]; exact va_up_self _ _ _
                      have hct : CTI D kh mC x86.toInt x123.toInt := by first | exact ⟨iC + 1, by omega, by omega, by omega⟩ | exact ⟨(y82.toInt % 1048576).toNat, by omega, by omega, by omega⟩
                      refine lv_goto (tgt := 14) hx hb dX9_comesTo_228 (by decide) ?_
                      exact ih14 x86 x123 ct135 _ _ ls (by omega) (by first | assumption | omega | decide) (by first | assumption | omega | decide) (by first | assumption | omega | decide) (by first | assumption | omega | decide) (by first | assumption | omega | decide) (by first | assumption | omega | decide) (by first | assumption | omega | decide) (by first | assumption | omega | decide) (by first | assumption | omega | decide) hI hP hD hS (lv_sub hl [1, 4, 0, 5, 6, 7] rfl)
                    · skip
                      have c128 : y127.toInt = 0 := (z_eq rfl (by decide : (0 : Int32).toInt = 0)).mp c128
                      refine lv_iconst (v := 0) hx hb dX9_comesTo_199 (by decide) ?_
                      have q140 : (0 : Int32).toInt = 0 := by decide
                      exact W.iret (v := 0) hx hb hr (fun t ht hW => ⟨⟨0, (), rfl, trivial, ct3, by rw [ht]; exact hP, hD, hI, (by first | assumption | omega), (by first | assumption | omega), (by first | assumption | omega), (by first | assumption | omega), (by first | assumption | omega), (by first | assumption | omega)⟩, hS.F ht⟩) hS.2.2 dX9_comesTo_200
                  · skip
                    have c124 : ¬ (x83.toInt = 5) := fun q => c124 ((z_eq rfl (by decide : (5 : Int32).toInt = 5)).mpr q)
                    refine lv_iload hx hb dX9_comesTo_183 (lv_at hl 3 rfl) ?_
                    refine lv_bipush (v := 6) hx hb dX9_comesTo_185 (by decide) ?_
                    refine lv_icmp_ne (tgt := 201) hx hb dX9_comesTo_187 (by decide) (fun c141 => ?_) (fun c141 => ?_)
                    · skip
                      have c141 : ¬ (x83.toInt = 6) := fun q => c141 ((z_eq rfl (by decide : (6 : Int32).toInt = 6)).mpr q)
                      refine lv_aload_n hx hb dX9_comesTo_201 rfl (lv_at hl 5 rfl) ?_
                      refine va_get (D := g.1) (ci := 9) (v := .ref (ad 17)) (C := RX9) (T := TX9) (N := 47) hx hb hg inG9 hown hK hP 0 (zw_at (by omega) hs44) rfl 29 (by decide) (hg _ mm_987) (fun _ h9 => h9) rfl dX9_comesTo_202 ?_
                      refine lv_iload_n hx hb dX9_comesTo_205 rfl (lv_at hl 0 rfl) ?_
                      refine lv_iconst (v := 1) hx hb dX9_comesTo_206 (by decide) ?_
                      refine lv_isub hx hb dX9_comesTo_207 ?_
                      refine lv_topi (fun x142 ex142 => ?_)
                      have tx142 : x142.toInt = x123.toInt - 1 := by rw [ex142]; exact z_sub rfl (by decide : (1 : Int32).toInt = 1) (by omega) (by omega)
                      refine lv_iload hx hb dX9_comesTo_208 (lv_at hl 3 rfl) ?_
                      refine lv_aload_n hx hb dX9_comesTo_210 rfl (lv_at hl 5 rfl) ?_
                      refine va_get (D := g.1) (ci := 9) (v := .ref (ad 17)) (C := RX9) (T := TX9) (N := 47) hx hb hg inG9 hown hK hP 0 (zw_at (by omega) hs44) rfl 29 (by decide) (hg _ mm_987) (fun _ h9 => h9) rfl dX9_comesTo_211 ?_
                      refine lv_iload_n hx hb dX9_comesTo_214 rfl (lv_at hl 0 rfl) ?_
                      refine lv_iconst (v := 1) hx hb dX9_comesTo_215 (by decide) ?_
                      refine lv_isub hx hb dX9_comesTo_216 ?_
                      refine lv_topi (fun x143 ex143 => ?_)
                      obtain rfl : x142 = x143 := ex142.trans ex143.symm
                      obtain ⟨f145, hs144⟩ := a9_17 hI.1
                      refine va_iald hx hb hK hP 17 0 (zw_at (by omega) hs144) rfl (z_in rfl (by omega) (by omega)) dX9_comesTo_217 ?_
                      refine lv_topi (fun y146 ey146 => ?_)
                      refine lv_aload_n hx hb dX9_comesTo_218 rfl (lv_at hl 5 rfl) ?_
                      refine va_get (D := g.1) (ci := 9) (v := .ref (ad 17)) (C := RX9) (T := TX9) (N := 47) hx hb hg inG9 hown hK hP 0 (zw_at (by omega) hs44) rfl 29 (by decide) (hg _ mm_987) (fun _ h9 => h9) rfl dX9_comesTo_219 ?_
                      refine lv_iload_n hx hb dX9_comesTo_222 rfl (lv_at hl 0 rfl) ?_
                      refine va_iald hx hb hK hP 17 0 (zw_at (by omega) hs144) rfl (z_in rfl (by omega) (by omega)) dX9_comesTo_223 ?_
                      refine lv_topi (fun y147 ey147 => ?_)
                      refine zc_i (va_runS (As := [.int x83, .int y146, .int y147]) (rest := [.int x142, .ref (ad 17)]) ⟨hx, hb, hml, hown, hg⟩ (k_X9_reckon l g ad me ct3 x83 y146 y147 hI (by first | assumption | omega | decide)) (va_cwS 3 hg (z_gS mm_1321 mm_1322 mm_117 mm_1323) rfl rfl rfl (by decide +kernel) ⟨Nat.le_of_ble_eq_true rfl, Nat.le_of_ble_eq_true rfl⟩) (zR.pre [.int x83, .int y146, .int y147] hP hK hN) rfl rfl hl.1 rfl (lv_room (Nat.le_of_ble_eq_true rfl)) dX9_comesTo_224 ⟨Nat.le_of_ble_eq_true rfl, Nat.le_of_ble_eq_true rfl⟩) (fun r148 hr148 => ?_)
                      refine va_iast hx hb hK hP hD hS 17 0 (zw_at (by omega) hs144) rfl (z_in rfl (by omega) (by omega)) dX9_comesTo_227 (fun H locs hP hD hS => ?_)
                      have hP : zP g ((zw 32 ad ct3).set 17 (ad 17, .inl (g.2 0, 120, .inl (upd f145 (Int32.toNatClampNeg x142) r148)))) H := hP
                      have hD : va_D A ((zw 32 ad ct3).set 17 (ad 17, .inl (g.2 0, 120, .inl (upd f145 (Int32.toNatClampNeg x142) r148)))) := hD
                      rw [zw_set (by omega)] at hP hD
                      obtain ⟨ct150, ec151⟩ : ∃ z : Nat → va_E, z = va_up ct3 17 (.inl (g.2 0, 120, .inl (upd f145 (Int32.toNatClampNeg x142) r148))) := ⟨_, rfl⟩
                      rw [← ec151] at hP hD
                      have hI : IR g ad me ct150 := by rw [ec151]; exact upR hI (by decide) (i9_17 ⟨_, rfl⟩)
                      have hc0 : ct150 0 = ct 0 := by rw [ec151]; exact (va_up_ne _ _ (by omega)).trans hc0
                      have hc5 : ct150 5 = ct 5 := by rw [ec151]; exact (va_up_ne _ _ (by omega)).trans hc5
                      have hc10 : ct150 10 = ct 10 := by rw [ec151]; exact (va_up_ne _ _ (by omega)).trans hc10
                      have hc14 : ct150 14 = ct 14 := by rw [ec151]; exact (va_up_ne _ _ (by omega)).trans hc14
                      have hc18 : ct150 18 = ct 18 := by rw [ec151]; exact (va_up_ne _ _ (by omega)).trans hc18
                      have hc19 : ct150 19 = ct 19 := by rw [ec151]; exact (va_up_ne _ _ (by omega)).trans hc19
                      have hs152 : ct150 0 = .inr (9, [.int me, .ref (ad 1), .ref (ad 2), .ref (ad 3), .ref (ad 4), .int bks45, .int lks46, .int gos47, .int shn48, .ref (ad 5), .ref (ad 6), .ref (ad 7), .ref (ad 8), .ref (ad 9), .ref (ad 10), .ref (ad 11), .int tpd49, .int pl050, .int ln051, .int flt52, .int opn53, .int cmy54, .int wtg55, .int nm056, .ref (ad 12), .ref (ad 13), .ref (ad 14), .ref (ad 15), .ref (ad 16), .ref (ad 17), .ref (ad 18), .ref (ad 19), .ref (ad 20), .ref (ad 21), .ref (ad 22), .ref (ad 23), .ref (ad 24), .ref (ad 25), .ref (ad 26), .ref (ad 27), .int mst57, .int sus58, .ref (ad 28), .ref (ad 29), .ref (ad 30), .ref (ad 31), .int cut59]) := by rw [ec151, va_up_ne _ _ (by omega)]; exact hs44
                      have hs153 : ct150 14 = .inl (g.2 0, 960, .inl f81) := by rw [ec151, va_up_ne _ _ (by omega)]; exact hs80
                      have hs154 : ct150 17 = .inl (g.2 0, 120, .inl (upd f145 (Int32.toNatClampNeg x142) r148)) := by rw [ec151]; exact va_up_self _ _ _
                      have hct : CTI D kh mC x86.toInt x123.toInt := by first | exact ⟨iC + 1, by omega, by omega, by omega⟩ | exact ⟨(y82.toInt % 1048576).toNat, by omega, by omega, by omega⟩
                      refine lv_goto (tgt := 14) hx hb dX9_comesTo_228 (by decide) ?_
                      exact ih14 x86 x123 ct150 _ _ ls (by omega) (by first | assumption | omega | decide) (by first | assumption | omega | decide) (by first | assumption | omega | decide) (by first | assumption | omega | decide) (by first | assumption | omega | decide) (by first | assumption | omega | decide) (by first | assumption | omega | decide) (by first | assumption | omega | decide) (by first | assumption | omega | decide) hI hP hD hS (lv_sub hl [1, 4, 0, 5, 6, 7] rfl)
                    · skip
                      have c141 : x83.toInt = 6 := (z_eq rfl (by decide : (6 : Int32).toInt = 6)).mp c141
                      refine lv_aload_n hx hb dX9_comesTo_190 rfl (lv_at hl 5 rfl) ?_
                      refine va_get (D := g.1) (ci := 9) (v := .ref (ad 17)) (C := RX9) (T := TX9) (N := 47) hx hb hg inG9 hown hK hP 0 (zw_at (by omega) hs44) rfl 29 (by decide) (hg _ mm_987) (fun _ h9 => h9) rfl dX9_comesTo_191 ?_
                      refine lv_iload_n hx hb dX9_comesTo_194 rfl (lv_at hl 0 rfl) ?_
                      obtain ⟨f156, hs155⟩ := a9_17 hI.1
                      refine va_iald hx hb hK hP 17 0 (zw_at (by omega) hs155) rfl (z_in rfl (by omega) (by omega)) dX9_comesTo_195 ?_
                      refine lv_topi (fun y157 ey157 => ?_)
                      refine lv_if_ne (tgt := 201) hx hb dX9_comesTo_196 (by decide) (fun c158 => ?_) (fun c158 => ?_)
                      · skip
                        have c158 : ¬ (y157.toInt = 0) := fun q => c158 ((z_eq rfl (by decide : (0 : Int32).toInt = 0)).mpr q)
                        refine lv_aload_n hx hb dX9_comesTo_201 rfl (lv_at hl 5 rfl) ?_
                        refine va_get (D := g.1) (ci := 9) (v := .ref (ad 17)) (C := RX9) (T := TX9) (N := 47) hx hb hg inG9 hown hK hP 0 (zw_at (by omega) hs44) rfl 29 (by decide) (hg _ mm_987) (fun _ h9 => h9) rfl dX9_comesTo_202 ?_
                        refine lv_iload_n hx hb dX9_comesTo_205 rfl (lv_at hl 0 rfl) ?_
                        refine lv_iconst (v := 1) hx hb dX9_comesTo_206 (by decide) ?_
                        refine lv_isub hx hb dX9_comesTo_207 ?_
                        refine lv_topi (fun x159 ex159 => ?_)
                        have tx159 : x159.toInt = x123.toInt - 1 := by rw [ex159]; exact z_sub rfl (by decide : (1 : Int32).toInt = 1) (by omega) (by omega)
                        refine lv_iload hx hb dX9_comesTo_208 (lv_at hl 3 rfl) ?_
                        refine lv_aload_n hx hb dX9_comesTo_210 rfl (lv_at hl 5 rfl) ?_
                        refine va_get (D := g.1) (ci := 9) (v := .ref (ad 17)) (C := RX9) (T := TX9) (N := 47) hx hb hg inG9 hown hK hP 0 (zw_at (by omega) hs44) rfl 29 (by decide) (hg _ mm_987) (fun _ h9 => h9) rfl dX9_comesTo_211 ?_
                        refine lv_iload_n hx hb dX9_comesTo_214 rfl (lv_at hl 0 rfl) ?_
                        refine lv_iconst (v := 1) hx hb dX9_comesTo_215 (by decide) ?_
                        refine lv_isub hx hb dX9_comesTo_216 ?_
                        refine lv_topi (fun x160 ex160 => ?_)
                        obtain rfl : x159 = x160 := ex159.trans ex160.symm
                        refine va_iald hx hb hK hP 17 0 (zw_at (by omega) hs155) rfl (z_in rfl (by omega) (by omega)) dX9_comesTo_217 ?_
                        refine lv_topi (fun y161 ey161 => ?_)
                        refine lv_aload_n hx hb dX9_comesTo_218 rfl (lv_at hl 5 rfl) ?_
                        refine va_get (D := g.1) (ci := 9) (v := .ref (ad 17)) (C := RX9) (T := TX9) (N := 47) hx hb hg inG9 hown hK hP 0 (zw_at (by omega) hs44) rfl 29 (by decide) (hg _ mm_987) (fun _ h9 => h9) rfl dX9_comesTo_219 ?_
                        refine lv_iload_n hx hb dX9_comesTo_222 rfl (lv_at hl 0 rfl) ?_
                        refine va_iald hx hb hK hP 17 0 (zw_at (by omega) hs155) rfl (z_in rfl (by omega) (by omega)) dX9_comesTo_223 ?_
                        refine lv_topi (fun y162 ey162 => ?_)
                        obtain rfl : y157 = y162 := ey157.trans ey162.symm
                        refine zc_i (va_runS (As := [.int x83, .int y161, .int y157]) (rest := [.int x159, .ref (ad 17)]) ⟨hx, hb, hml, hown, hg⟩ (k_X9_reckon l g ad me ct3 x83 y161 y157 hI (by first | assumption | omega | decide)) (va_cwS 3 hg (z_gS mm_1321 mm_1322 mm_117 mm_1323) rfl rfl rfl (by decide +kernel) ⟨Nat.le_of_ble_eq_true rfl, Nat.le_of_ble_eq_true rfl⟩) (zR.pre [.int x83, .int y161, .int y157] hP hK hN) rfl rfl hl.1 rfl (lv_room (Nat.le_of_ble_eq_true rfl)) dX9_comesTo_224 ⟨Nat.le_of_ble_eq_true rfl, Nat.le_of_ble_eq_true rfl⟩) (fun r163 hr163 => ?_)
                        refine va_iast hx hb hK hP hD hS 17 0 (zw_at (by omega) hs155) rfl (z_in rfl (by omega) (by omega)) dX9_comesTo_227 (fun H locs hP hD hS => ?_)
                        have hP : zP g ((zw 32 ad ct3).set 17 (ad 17, .inl (g.2 0, 120, .inl (upd f156 (Int32.toNatClampNeg x159) r163)))) H := hP
                        have hD : va_D A ((zw 32 ad ct3).set 17 (ad 17, .inl (g.2 0, 120, .inl (upd f156 (Int32.toNatClampNeg x159) r163)))) := hD
                        rw [zw_set (by omega)] at hP hD
                        obtain ⟨ct165, ec166⟩ : ∃ z : Nat → va_E, z = va_up ct3 17 (.inl (g.2 0, 120, .inl (upd f156 (Int32.toNatClampNeg x159) r163))) := ⟨_, rfl⟩
                        rw [← ec166] at hP hD
                        have hI : IR g ad me ct165 := by rw [ec166]; exact upR hI (by decide) (i9_17 ⟨_, rfl⟩)
                        have hc0 : ct165 0 = ct 0 := by rw [ec166]; exact (va_up_ne _ _ (by omega)).trans hc0
                        have hc5 : ct165 5 = ct 5 := by rw [ec166]; exact (va_up_ne _ _ (by omega)).trans hc5
                        have hc10 : ct165 10 = ct 10 := by rw [ec166]; exact (va_up_ne _ _ (by omega)).trans hc10
                        have hc14 : ct165 14 = ct 14 := by rw [ec166]; exact (va_up_ne _ _ (by omega)).trans hc14
                        have hc18 : ct165 18 = ct 18 := by rw [ec166]; exact (va_up_ne _ _ (by omega)).trans hc18
                        have hc19 : ct165 19 = ct 19 := by rw [ec166]; exact (va_up_ne _ _ (by omega)).trans hc19
                        have hs167 : ct165 0 = .inr (9, [.int me, .ref (ad 1), .ref (ad 2), .ref (ad 3), .ref (ad 4), .int bks45, .int lks46, .int gos47, .int shn48, .ref (ad 5), .ref (ad 6), .ref (ad 7), .ref (ad 8), .ref (ad 9), .ref (ad 10), .ref (ad 11), .int tpd49, .int pl050, .int ln051, .int flt52, .int opn53, .int cmy54, .int wtg55, .int nm056, .ref (ad 12), .ref (ad 13), .ref (ad 14), .ref (ad 15), .ref (ad 16), .ref (ad 17), .ref (ad 18), .ref (ad 19), .ref (ad 20), .ref (ad 21), .ref (ad 22), .ref (ad 23), .ref (ad 24), .ref (ad 25), .ref (ad 26), .ref (ad 27), .int mst57, .int sus58, .ref (ad 28), .ref (ad 29), .ref (ad 30), .ref (ad 31), .int cut59]) := by rw [ec166, va_up_ne _ _ (by omega)]; exact hs44
                        have hs168 : ct165 14 = .inl (g.2 0, 960, .inl f81) := by rw [ec166, va_up_ne _ _ (by omega)]; exact hs80
                        have hs169 : ct165 17 = .inl (g.2 0, 120, .inl (upd f156 (Int32.toNatClampNeg x159) r163)) := by rw [ec166]; exact va_up_self _ _ _
                        have hct : CTI D kh mC x86.toInt x123.toInt := by first | exact ⟨iC + 1, by omega, by omega, by omega⟩ | exact ⟨(y82.toInt % 1048576).toNat, by omega, by omega, by omega⟩
                        refine lv_goto (tgt := 14) hx hb dX9_comesTo_228 (by decide) ?_
                        exact ih14 x86 x123 ct165 _ _ ls (by omega) (by first | assumption | omega | decide) (by first | assumption | omega | decide) (by first | assumption | omega | decide) (by first | assumption | omega | decide) (by first | assumption | omega | decide) (by first | assumption | omega | decide) (by first | assumption | omega | decide) (by first | assumption | omega | decide) (by first | assumption | omega | decide) hI hP hD hS (lv_sub hl [1, 4, 0, 5, 6, 7] rfl)
                      · skip
                        have c158 : y157.toInt = 0 := (z_eq rfl (by decide : (0 : Int32).toInt = 0)).mp c158
                        refine lv_iconst (v := 0) hx hb dX9_comesTo_199 (by decide) ?_
                        have q170 : (0 : Int32).toInt = 0 := by decide
                        exact W.iret (v := 0) hx hb hr (fun t ht hW => ⟨⟨0, (), rfl, trivial, ct3, by rw [ht]; exact hP, hD, hI, (by first | assumption | omega), (by first | assumption | omega), (by first | assumption | omega), (by first | assumption | omega), (by first | assumption | omega), (by first | assumption | omega)⟩, hS.F ht⟩) hS.2.2 dX9_comesTo_200
                · skip
                  have c122 : x83.toInt = 12 := (z_eq rfl (by decide : (12 : Int32).toInt = 12)).mp c122
                  refine lv_aload_n hx hb dX9_comesTo_133 rfl (lv_at hl 5 rfl) ?_
                  refine va_get (D := g.1) (ci := 9) (v := .ref (ad 17)) (C := RX9) (T := TX9) (N := 47) hx hb hg inG9 hown hK hP 0 (zw_at (by omega) hs44) rfl 29 (by decide) (hg _ mm_987) (fun _ h9 => h9) rfl dX9_comesTo_134 ?_
                  refine lv_iload_n hx hb dX9_comesTo_137 rfl (lv_at hl 4 rfl) ?_
                  refine lv_iconst (v := 1) hx hb dX9_comesTo_138 (by decide) ?_
                  refine lv_isub hx hb dX9_comesTo_139 ?_
                  refine lv_topi (fun x171 ex171 => ?_)
                  have tx171 : x171.toInt = v3_14.toInt - 1 := by rw [ex171]; exact z_sub rfl (by decide : (1 : Int32).toInt = 1) (by omega) (by omega)
                  obtain ⟨f173, hs172⟩ := a9_17 hI.1
                  refine va_iald hx hb hK hP 17 0 (zw_at (by omega) hs172) rfl (z_in rfl (by omega) (by omega)) dX9_comesTo_140 ?_
                  refine lv_topi (fun y174 ey174 => ?_)
                  refine lv_iload hx hb dX9_comesTo_141 (lv_at hl 2 rfl) ?_
                  refine lv_bipush (v := 12) hx hb dX9_comesTo_143 (by decide) ?_
                  refine lv_icmp_ne (tgt := 152) hx hb dX9_comesTo_145 (by decide) (fun c175 => ?_) (fun c175 => ?_)
                  · skip
                    have c175 : ¬ (x83.toInt = 12) := fun q => c175 ((z_eq rfl (by decide : (12 : Int32).toInt = 12)).mpr q)
                    refine lv_iconst (v := 0) hx hb dX9_comesTo_152 (by decide) ?_
                    refine lv_icmp_ne (tgt := 166) hx hb dX9_comesTo_153 (by decide) (fun c176 => ?_) (fun c176 => ?_)
                    · skip
                      have c176 : ¬ (y174.toInt = 0) := fun q => c176 ((z_eq rfl (by decide : (0 : Int32).toInt = 0)).mpr q)
                      refine lv_iload_n hx hb dX9_comesTo_166 rfl (lv_at hl 4 rfl) ?_
                      refine lv_iconst (v := 1) hx hb dX9_comesTo_167 (by decide) ?_
                      refine lv_isub hx hb dX9_comesTo_168 ?_
                      refine lv_topi (fun x177 ex177 => ?_)
                      obtain rfl : x171 = x177 := ex171.trans ex177.symm
                      refine lv_istore_n (lv' := [(3, .int x171), (5, .int x86), (7, .int x85), (6, .int x83), (4, .int x2), (0, .ref (ad 0)), (1, .int fr), (2, .int to)]) hx hb dX9_comesTo_169 rfl hl (by decide) rfl (fun ls hl => ?_)
                      refine lv_goto (tgt := 228) hx hb dX9_comesTo_170 (by decide) ?_
                      have hct : CTI D kh mC x86.toInt x171.toInt := by first | exact ⟨iC + 1, by omega, by omega, by omega⟩ | exact ⟨(y82.toInt % 1048576).toNat, by omega, by omega, by omega⟩
                      refine lv_goto (tgt := 14) hx hb dX9_comesTo_228 (by decide) ?_
                      exact ih14 x86 x171 ct3 _ _ ls (by omega) (by first | assumption | omega | decide) (by first | assumption | omega | decide) (by first | assumption | omega | decide) (by first | assumption | omega | decide) (by first | assumption | omega | decide) (by first | assumption | omega | decide) (by first | assumption | omega | decide) (by first | assumption | omega | decide) (by first | assumption | omega | decide) hI hP hD hS (lv_sub hl [1, 4, 0, 5, 6, 7] rfl)
                    · skip
                      have c176 : y174.toInt = 0 := (z_eq rfl (by decide : (0 : Int32).toInt = 0)).mp c176
                      refine lv_iload hx hb dX9_comesTo_156 (lv_at hl 3 rfl) ?_
                      refine lv_iload hx hb dX9_comesTo_158 (lv_at hl 1 rfl) ?_
                      refine lv_iadd hx hb dX9_comesTo_160 ?_
                      refine lv_topi (fun x178 ex178 => ?_)
                      have tx178 : x178.toInt = x2.toInt + x85.toInt := by rw [ex178]; exact z_add rfl rfl (by omega) (by omega)
                      refine lv_istore (lv' := [(5, .int x178), (7, .int x85), (6, .int x83), (4, .int x2), (3, .int v3_14), (0, .ref (ad 0)), (1, .int fr), (2, .int to)]) hx hb dX9_comesTo_161 hl (by decide) rfl (fun ls hl => ?_)
                      refine lv_goto (tgt := 228) hx hb dX9_comesTo_163 (by decide) ?_
                      have hct : CTI D kh mC x178.toInt v3_14.toInt := by first | exact ⟨iC + 1, by omega, by omega, by omega⟩ | exact ⟨(y82.toInt % 1048576).toNat, by omega, by omega, by omega⟩
                      refine lv_goto (tgt := 14) hx hb dX9_comesTo_228 (by decide) ?_
                      exact ih14 x178 v3_14 ct3 _ _ ls (by omega) (by first | assumption | omega | decide) (by first | assumption | omega | decide) (by first | assumption | omega | decide) (by first | assumption | omega | decide) (by first | assumption | omega | decide) (by first | assumption | omega | decide) (by first | assumption | omega | decide) (by first | assumption | omega | decide) (by first | assumption | omega | decide) hI hP hD hS (lv_sub hl [0, 3, 4, 5, 6, 7] rfl)
                  · skip
                    have c175 : x83.toInt = 12 := (z_eq rfl (by decide : (12 : Int32).toInt = 12)).mp c175
                    refine lv_iconst (v := 1) hx hb dX9_comesTo_148 (by decide) ?_
                    refine lv_goto (tgt := 153) hx hb dX9_comesTo_149 (by decide) ?_
                    refine lv_icmp_ne (tgt := 166) hx hb dX9_comesTo_153 (by decide) (fun c179 => ?_) (fun c179 => ?_)
                    · skip
                      have c179 : ¬ (y174.toInt = 1) := fun q => c179 ((z_eq rfl (by decide : (1 : Int32).toInt = 1)).mpr q)
                      refine lv_iload_n hx hb dX9_comesTo_166 rfl (lv_at hl 4 rfl) ?_
                      refine lv_iconst (v := 1) hx hb dX9_comesTo_167 (by decide) ?_
                      refine lv_isub hx hb dX9_comesTo_168 ?_
                      refine lv_topi (fun x180 ex180 => ?_)
                      obtain rfl : x171 = x180 := ex171.trans ex180.symm
                      refine lv_istore_n (lv' := [(3, .int x171), (5, .int x86), (7, .int x85), (6, .int x83), (4, .int x2), (0, .ref (ad 0)), (1, .int fr), (2, .int to)]) hx hb dX9_comesTo_169 rfl hl (by decide) rfl (fun ls hl => ?_)
                      refine lv_goto (tgt := 228) hx hb dX9_comesTo_170 (by decide) ?_
                      have hct : CTI D kh mC x86.toInt x171.toInt := by first | exact ⟨iC + 1, by omega, by omega, by omega⟩ | exact ⟨(y82.toInt % 1048576).toNat, by omega, by omega, by omega⟩
                      refine lv_goto (tgt := 14) hx hb dX9_comesTo_228 (by decide) ?_
                      exact ih14 x86 x171 ct3 _ _ ls (by omega) (by first | assumption | omega | decide) (by first | assumption | omega | decide) (by first | assumption | omega | decide) (by first | assumption | omega | decide) (by first | assumption | omega | decide) (by first | assumption | omega | decide) (by first | assumption | omega | decide) (by first | assumption | omega | decide) (by first | assumption | omega | decide) hI hP hD hS (lv_sub hl [1, 4, 0, 5, 6, 7] rfl)
                    · skip
                      have c179 : y174.toInt = 1 := (z_eq rfl (by decide : (1 : Int32).toInt = 1)).mp c179
                      refine lv_iload hx hb dX9_comesTo_156 (lv_at hl 3 rfl) ?_
                      refine lv_iload hx hb dX9_comesTo_158 (lv_at hl 1 rfl) ?_
                      refine lv_iadd hx hb dX9_comesTo_160 ?_
                      refine lv_topi (fun x181 ex181 => ?_)
                      have tx181 : x181.toInt = x2.toInt + x85.toInt := by rw [ex181]; exact z_add rfl rfl (by omega) (by omega)
                      refine lv_istore (lv' := [(5, .int x181), (7, .int x85), (6, .int x83), (4, .int x2), (3, .int v3_14), (0, .ref (ad 0)), (1, .int fr), (2, .int to)]) hx hb dX9_comesTo_161 hl (by decide) rfl (fun ls hl => ?_)
                      refine lv_goto (tgt := 228) hx hb dX9_comesTo_163 (by decide) ?_
                      have hct : CTI D kh mC x181.toInt v3_14.toInt := by first | exact ⟨iC + 1, by omega, by omega, by omega⟩ | exact ⟨(y82.toInt % 1048576).toNat, by omega, by omega, by omega⟩
                      refine lv_goto (tgt := 14) hx hb dX9_comesTo_228 (by decide) ?_
                      exact ih14 x181 v3_14 ct3 _ _ ls (by omega) (by first | assumption | omega | decide) (by first | assumption | omega | decide) (by first | assumption | omega | decide) (by first | assumption | omega | decide) (by first | assumption | omega | decide) (by first | assumption | omega | decide) (by first | assumption | omega | decide) (by first | assumption | omega | decide) (by first | assumption | omega | decide) hI hP hD hS (lv_sub hl [0, 3, 4, 5, 6, 7] rfl)
            · skip
              have c112 : x83.toInt = 10 := (z_eq rfl (by decide : (10 : Int32).toInt = 10)).mp c112
              refine lv_aload_n hx hb dX9_comesTo_98 rfl (lv_at hl 5 rfl) ?_
              refine va_get (D := g.1) (ci := 9) (v := .ref (ad 17)) (C := RX9) (T := TX9) (N := 47) hx hb hg inG9 hown hK hP 0 (zw_at (by omega) hs44) rfl 29 (by decide) (hg _ mm_987) (fun _ h9 => h9) rfl dX9_comesTo_99 ?_
              refine lv_iload_n hx hb dX9_comesTo_102 rfl (lv_at hl 4 rfl) ?_
              refine lv_iconst (v := 1) hx hb dX9_comesTo_103 (by decide) ?_
              refine lv_isub hx hb dX9_comesTo_104 ?_
              refine lv_topi (fun x182 ex182 => ?_)
              have tx182 : x182.toInt = v3_14.toInt - 1 := by rw [ex182]; exact z_sub rfl (by decide : (1 : Int32).toInt = 1) (by omega) (by omega)
              refine lv_iconst (v := 1) hx hb dX9_comesTo_105 (by decide) ?_
              refine lv_aload_n hx hb dX9_comesTo_106 rfl (lv_at hl 5 rfl) ?_
              refine va_get (D := g.1) (ci := 9) (v := .ref (ad 17)) (C := RX9) (T := TX9) (N := 47) hx hb hg inG9 hown hK hP 0 (zw_at (by omega) hs44) rfl 29 (by decide) (hg _ mm_987) (fun _ h9 => h9) rfl dX9_comesTo_107 ?_
              refine lv_iload_n hx hb dX9_comesTo_110 rfl (lv_at hl 4 rfl) ?_
              refine lv_iconst (v := 1) hx hb dX9_comesTo_111 (by decide) ?_
              refine lv_isub hx hb dX9_comesTo_112 ?_
              refine lv_topi (fun x183 ex183 => ?_)
              obtain rfl : x182 = x183 := ex182.trans ex183.symm
              obtain ⟨f185, hs184⟩ := a9_17 hI.1
              refine va_iald hx hb hK hP 17 0 (zw_at (by omega) hs184) rfl (z_in rfl (by omega) (by omega)) dX9_comesTo_113 ?_
              refine lv_topi (fun y186 ey186 => ?_)
              refine lv_isub hx hb dX9_comesTo_114 ?_
              refine lv_topi (fun x187 ex187 => ?_)
              refine va_iast hx hb hK hP hD hS 17 0 (zw_at (by omega) hs184) rfl (z_in rfl (by omega) (by omega)) dX9_comesTo_115 (fun H locs hP hD hS => ?_)
              have hP : zP g ((zw 32 ad ct3).set 17 (ad 17, .inl (g.2 0, 120, .inl (upd f185 (Int32.toNatClampNeg x182) x187)))) H := hP
              have hD : va_D A ((zw 32 ad ct3).set 17 (ad 17, .inl (g.2 0, 120, .inl (upd f185 (Int32.toNatClampNeg x182) x187)))) := hD
              rw [zw_set (by omega)] at hP hD
              obtain ⟨ct189, ec190⟩ : ∃ z : Nat → va_E, z = va_up ct3 17 (.inl (g.2 0, 120, .inl (upd f185 (Int32.toNatClampNeg x182) x187))) := ⟨_, rfl⟩
              rw [← ec190] at hP hD
              have hI : IR g ad me ct189 := by rw [ec190]; exact upR hI (by decide) (i9_17 ⟨_, rfl⟩)
              have hc0 : ct189 0 = ct 0 := by rw [ec190]; exact (va_up_ne _ _ (by omega)).trans hc0
              have hc5 : ct189 5 = ct 5 := by rw [ec190]; exact (va_up_ne _ _ (by omega)).trans hc5
              have hc10 : ct189 10 = ct 10 := by rw [ec190]; exact (va_up_ne _ _ (by omega)).trans hc10
              have hc14 : ct189 14 = ct 14 := by rw [ec190]; exact (va_up_ne _ _ (by omega)).trans hc14
              have hc18 : ct189 18 = ct 18 := by rw [ec190]; exact (va_up_ne _ _ (by omega)).trans hc18
              have hc19 : ct189 19 = ct 19 := by rw [ec190]; exact (va_up_ne _ _ (by omega)).trans hc19
              have hs191 : ct189 0 = .inr (9, [.int me, .ref (ad 1), .ref (ad 2), .ref (ad 3), .ref (ad 4), .int bks45, .int lks46, .int gos47, .int shn48, .ref (ad 5), .ref (ad 6), .ref (ad 7), .ref (ad 8), .ref (ad 9), .ref (ad 10), .ref (ad 11), .int tpd49, .int pl050, .int ln051, .int flt52, .int opn53, .int cmy54, .int wtg55, .int nm056, .ref (ad 12), .ref (ad 13), .ref (ad 14), .ref (ad 15), .ref (ad 16), .ref (ad 17), .ref (ad 18), .ref (ad 19), .ref (ad 20), .ref (ad 21), .ref (ad 22), .ref (ad 23), .ref (ad 24), .ref (ad 25), .ref (ad 26), .ref (ad 27), .int mst57, .int sus58, .ref (ad 28), .ref (ad 29), .ref (ad 30), .ref (ad 31), .int cut59]) := by rw [ec190, va_up_ne _ _ (by omega)]; exact hs44
              have hs192 : ct189 14 = .inl (g.2 0, 960, .inl f81) := by rw [ec190, va_up_ne _ _ (by omega)]; exact hs80
              have hs193 : ct189 17 = .inl (g.2 0, 120, .inl (upd f185 (Int32.toNatClampNeg x182) x187)) := by rw [ec190]; exact va_up_self _ _ _
              refine lv_goto (tgt := 228) hx hb dX9_comesTo_116 (by decide) ?_
              have hct : CTI D kh mC x86.toInt v3_14.toInt := by first | exact ⟨iC + 1, by omega, by omega, by omega⟩ | exact ⟨(y82.toInt % 1048576).toNat, by omega, by omega, by omega⟩
              refine lv_goto (tgt := 14) hx hb dX9_comesTo_228 (by decide) ?_
              exact ih14 x86 v3_14 ct189 _ _ ls (by omega) (by first | assumption | omega | decide) (by first | assumption | omega | decide) (by first | assumption | omega | decide) (by first | assumption | omega | decide) (by first | assumption | omega | decide) (by first | assumption | omega | decide) (by first | assumption | omega | decide) (by first | assumption | omega | decide) (by first | assumption | omega | decide) hI hP hD hS (lv_sub hl [0, 3, 4, 5, 6, 7] rfl)
          · skip
            have c111 : x83.toInt = 1 := (z_eq rfl (by decide : (1 : Int32).toInt = 1)).mp c111
            refine lv_aload_n hx hb dX9_comesTo_61 rfl (lv_at hl 5 rfl) ?_
            refine va_get (D := g.1) (ci := 9) (v := .ref (ad 17)) (C := RX9) (T := TX9) (N := 47) hx hb hg inG9 hown hK hP 0 (zw_at (by omega) hs44) rfl 29 (by decide) (hg _ mm_987) (fun _ h9 => h9) rfl dX9_comesTo_62 ?_
            refine lv_iload_n hx hb dX9_comesTo_65 rfl (lv_at hl 4 rfl) ?_
            refine lv_iload hx hb dX9_comesTo_66 (lv_at hl 2 rfl) ?_
            refine lv_if_ne (tgt := 76) hx hb dX9_comesTo_68 (by decide) (fun c194 => ?_) (fun c194 => ?_)
            · skip
              have c194 : ¬ (x83.toInt = 0) := fun q => c194 ((z_eq rfl (by decide : (0 : Int32).toInt = 0)).mpr q)
              refine lv_aload_n hx hb dX9_comesTo_76 rfl (lv_at hl 5 rfl) ?_
              refine va_get (D := g.1) (ci := 9) (v := .ref (ad 18)) (C := RX9) (T := TX9) (N := 47) hx hb hg inG9 hown hK hP 0 (zw_at (by omega) hs44) rfl 30 (by decide) (hg _ mm_988) (fun _ h9 => h9) rfl dX9_comesTo_77 ?_
              refine lv_iload hx hb dX9_comesTo_80 (lv_at hl 1 rfl) ?_
              obtain ⟨f196, hs195⟩ := a9_18 hI.1
              refine va_iald hx hb hK hP 18 0 (zw_at (by omega) hs195) rfl (z_in rfl (by omega) (by omega)) dX9_comesTo_82 ?_
              refine lv_topi (fun y197 ey197 => ?_)
              obtain ⟨f199, hs198⟩ := a9_17 hI.1
              refine va_iast hx hb hK hP hD hS 17 0 (zw_at (by omega) hs198) rfl (z_in rfl (by omega) (by omega)) dX9_comesTo_83 (fun H locs hP hD hS => ?_)
              have hP : zP g ((zw 32 ad ct3).set 17 (ad 17, .inl (g.2 0, 120, .inl (upd f199 (Int32.toNatClampNeg v3_14) y197)))) H := hP
              have hD : va_D A ((zw 32 ad ct3).set 17 (ad 17, .inl (g.2 0, 120, .inl (upd f199 (Int32.toNatClampNeg v3_14) y197)))) := hD
              rw [zw_set (by omega)] at hP hD
              obtain ⟨ct201, ec202⟩ : ∃ z : Nat → va_E, z = va_up ct3 17 (.inl (g.2 0, 120, .inl (upd f199 (Int32.toNatClampNeg v3_14) y197))) := ⟨_, rfl⟩
              rw [← ec202] at hP hD
              have hI : IR g ad me ct201 := by rw [ec202]; exact upR hI (by decide) (i9_17 ⟨_, rfl⟩)
              have hc0 : ct201 0 = ct 0 := by rw [ec202]; exact (va_up_ne _ _ (by omega)).trans hc0
              have hc5 : ct201 5 = ct 5 := by rw [ec202]; exact (va_up_ne _ _ (by omega)).trans hc5
              have hc10 : ct201 10 = ct 10 := by rw [ec202]; exact (va_up_ne _ _ (by omega)).trans hc10
              have hc14 : ct201 14 = ct 14 := by rw [ec202]; exact (va_up_ne _ _ (by omega)).trans hc14
              have hc18 : ct201 18 = ct 18 := by rw [ec202]; exact (va_up_ne _ _ (by omega)).trans hc18
              have hc19 : ct201 19 = ct 19 := by rw [ec202]; exact (va_up_ne _ _ (by omega)).trans hc19
              have hs203 : ct201 0 = .inr (9, [.int me, .ref (ad 1), .ref (ad 2), .ref (ad 3), .ref (ad 4), .int bks45, .int lks46, .int gos47, .int shn48, .ref (ad 5), .ref (ad 6), .ref (ad 7), .ref (ad 8), .ref (ad 9), .ref (ad 10), .ref (ad 11), .int tpd49, .int pl050, .int ln051, .int flt52, .int opn53, .int cmy54, .int wtg55, .int nm056, .ref (ad 12), .ref (ad 13), .ref (ad 14), .ref (ad 15), .ref (ad 16), .ref (ad 17), .ref (ad 18), .ref (ad 19), .ref (ad 20), .ref (ad 21), .ref (ad 22), .ref (ad 23), .ref (ad 24), .ref (ad 25), .ref (ad 26), .ref (ad 27), .int mst57, .int sus58, .ref (ad 28), .ref (ad 29), .ref (ad 30), .ref (ad 31), .int cut59]) := by rw [ec202, va_up_ne _ _ (by omega)]; exact hs44
              have hs204 : ct201 14 = .inl (g.2 0, 960, .inl f81) := by rw [ec202, va_up_ne _ _ (by omega)]; exact hs80
              have hs205 : ct201 18 = .inl (g.2 0, 7, .inl f196) := by rw [ec202, va_up_ne _ _ (by omega)]; exact hs195
              have hs206 : ct201 17 = .inl (g.2 0, 120, .inl (upd f199 (Int32.toNatClampNeg v3_14) y197)) := by rw [ec202]; exact va_up_self _ _ _
              refine lv_iload_n hx hb dX9_comesTo_84 rfl (lv_at hl 4 rfl) ?_
              refine lv_iconst (v := 1) hx hb dX9_comesTo_85 (by decide) ?_
              refine lv_iadd hx hb dX9_comesTo_86 ?_
              refine lv_topi (fun x207 ex207 => ?_)
              have tx207 : x207.toInt = v3_14.toInt + 1 := by rw [ex207]; exact z_add rfl (by decide : (1 : Int32).toInt = 1) (by omega) (by omega)
              refine lv_istore_n (lv' := [(3, .int x207), (5, .int x86), (7, .int x85), (6, .int x83), (4, .int x2), (0, .ref (ad 0)), (1, .int fr), (2, .int to)]) hx hb dX9_comesTo_87 rfl hl (by decide) rfl (fun ls hl => ?_)
              refine lv_goto (tgt := 228) hx hb dX9_comesTo_88 (by decide) ?_
              have hct : CTI D kh mC x86.toInt x207.toInt := by first | exact ⟨iC + 1, by omega, by omega, by omega⟩ | exact ⟨(y82.toInt % 1048576).toNat, by omega, by omega, by omega⟩
              refine lv_goto (tgt := 14) hx hb dX9_comesTo_228 (by decide) ?_
              exact ih14 x86 x207 ct201 _ _ ls (by omega) (by first | assumption | omega | decide) (by first | assumption | omega | decide) (by first | assumption | omega | decide) (by first | assumption | omega | decide) (by first | assumption | omega | decide) (by first | assumption | omega | decide) (by first | assumption | omega | decide) (by first | assumption | omega | decide) (by first | assumption | omega | decide) hI hP hD hS (lv_sub hl [1, 4, 0, 5, 6, 7] rfl)
            · skip
              have c194 : x83.toInt = 0 := (z_eq rfl (by decide : (0 : Int32).toInt = 0)).mp c194
              exfalso
              omega
  have hct0 : CTI D kh mC fr.toInt ((0 : Int32)).toInt := ⟨0, by omega, by omega, by rw [hD0]; rfl⟩
  exact loop14 ((120 * (kh : Int) + (mC : Int) - fr.toInt : Int).toNat + 1) fr (0 : Int32) ct _ _ ls (by omega) (by first | assumption | omega | decide) (by first | assumption | omega | decide) (by first | assumption | omega | decide) (by first | assumption | omega | decide) (by first | assumption | omega | decide) (by first | assumption | omega | decide) (by first | assumption | omega | decide) (by first | assumption | omega | decide) (by first | assumption | omega | decide) hI hP hD hS (lv_sub hl [0, 1, 2, 3, 4, 5] rfl)
