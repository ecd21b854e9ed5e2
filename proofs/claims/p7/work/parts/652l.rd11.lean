set_option maxHeartbeats 4000000 in
set_option maxRecDepth 100000 in
theorem k_X9_hasOpenSum (l : Launch) (g : zG) (ad : Nat → Nat) (me : Int32) (ct : Nat → va_E) (base : Int32) (hl_base : 0 ≤ base.toInt ∧ base.toInt ≤ 120) (hI : IR g ad me ct) (hbw : base.toInt ≤ zfi 22 (ct 0)) : Met l yX9_hasOpenSum (zW yX9_hasOpenSum cX9_hasOpenSum 3 (some .boolean)) ({ frames := 0, cells := 0, slots := 0, locals := 0 }) (va_Pc [.ref (ad 0), .int base] (zR g (zw 32 ad ct))) (vp_Si (fun r : Int32 => (r = 1 ∧ (zos (ct 13) base.toInt (zfi 22 (ct 0)))) ∨ (r = 0 ∧ (zno (ct 13) base.toInt (zfi 22 (ct 0)) (zfi 22 (ct 0)))))) 0 0 (fun _ => False) := by
  refine Met.ofW (cc := cX9_hasOpenSum) (maxL := 3) (ret := (some .boolean)) (by decide) rfl ?_
  intro p e s m args below meth c s₁ B hml hv
  obtain ⟨rfl, hP, hK, hN⟩ := hv
  have hx := B.exec
  have hb := B.bytes
  have hr := B.returns
  have hg := zW.law (atoms_spec (ws := (zW yX9_hasOpenSum cX9_hasOpenSum 3 (some .boolean))) B.pre)
  have hown : s.vm.findClass RX9 = some m.cls := findClass_of_methodNamed B.named
  have hlocks := B.notSynchronized
  have hpe0 := hI.1.1
  have hl := lv_entry ([.ref (ad 0), .int base]) (n := 3) (Nat.le_of_ble_eq_true rfl)
  rw [lg_entry_eq]
  generalize (lg_sl ([.ref (ad 0), .int base]) ++ List.replicate (3 - (lg_sl ([.ref (ad 0), .int base])).length) Slot.unset).toArray = ls at hl ⊢
  have hl : lv_has ls 3 [(0, .ref (ad 0)), (1, .int base)] := hl
  refine lv_iload_n hx hb dX9_hasOpenSum_0 rfl (lv_at hl 1 rfl) ?_
  refine lv_istore_n (lv' := [(2, .int base), (0, .ref (ad 0)), (1, .int base)]) hx hb dX9_hasOpenSum_1 rfl hl (by decide) rfl (fun ls hl => ?_)
  have loop2 : ∀ (n2 : Nat) (v2_2 : Int32) (ls : Array Slot), ((120 - v2_2.toInt : Int).toNat < n2) → (0 ≤ v2_2.toInt ∧ v2_2.toInt ≤ 120) → (base.toInt ≤ v2_2.toInt) → (zno (ct 13) base.toInt v2_2.toInt (zfi 22 (ct 0))) → (v2_2.toInt ≤ zfi 22 (ct 0)) → lv_has ls 3 [(2, .int v2_2), (0, .ref (ad 0)), (1, .int base)] → W p l e (headSpec (zW yX9_hasOpenSum cX9_hasOpenSum 3 (some .boolean)) ({ frames := 0, cells := 0, slots := 0, locals := 0 })).room s m ([.ref (ad 0), .int base] : List Value).toArray below meth c s.heap [] 0 0 (MQ below (vp_Si (fun r : Int32 => (r = 1 ∧ (zos (ct 13) base.toInt (zfi 22 (ct 0)))) ∨ (r = 0 ∧ (zno (ct 13) base.toInt (zfi 22 (ct 0)) (zfi 22 (ct 0)))))) ([.ref (ad 0), .int base] : List Value).toArray s 0 0 (fun _ => False)) (F0 m 2 ls []) := by
    intro n2
    induction n2 with
    | zero =>
      intro v2_2 ls hn2 b2_2 j0_2 j1_2 j2_2 hl
      exact absurd hn2 (Nat.not_lt_zero _)
    | succ n2 ih2 =>
      intro v2_2 ls hn2 b2_2 j0_2 j1_2 j2_2 hl
      refine lv_iload_n hx hb dX9_hasOpenSum_2 rfl (lv_at hl 0 rfl) ?_
      refine lv_aload_n hx hb dX9_hasOpenSum_3 rfl (lv_at hl 1 rfl) ?_
      obtain ⟨bks2, lks3, gos4, shn5, tpd6, pl07, ln08, flt9, opn10, cmy11, wtg12, nm013, mst14, sus15, cut16, h17, h18, h19, h20, h21, h22, h23, h24, h25, h26, h27, h28, h29, h30, h31, h32, h33, h34, h35, h36, hs1⟩ := a9_0 hI.1
      have z22_hs1 : zfi 22 (ct 0) = wtg12.toInt := by rw [hs1]; rfl
      refine va_get (D := g.1) (ci := 9) (v := .int wtg12) (C := RX9) (T := TX9) (N := 47) hx hb hg inG9 hown hK hP 0 (zw_at (by omega) hs1) rfl 22 (by decide) (hg _ mm_980) (fun _ h9 => h9) rfl dX9_hasOpenSum_4 ?_
      refine lv_icmp_ge (tgt := 32) hx hb dX9_hasOpenSum_7 (by decide) (fun c37 => ?_) (fun c37 => ?_)
      · skip
        have c37 : wtg12.toInt ≤ v2_2.toInt := (z_le rfl rfl).mp c37
        refine lv_iconst (v := 0) hx hb dX9_hasOpenSum_32 (by decide) ?_
        have q38 : (0 : Int32).toInt = 0 := by decide
        exact W.zret (v := 0) hx hb hr rfl (fun t ht hW => ⟨0, rfl, Or.inr ⟨rfl, by rw [show v2_2.toInt = zfi 22 (ct 0) by omega] at j1_2; exact j1_2⟩, ht⟩) (fun q hq => by cases hq) dX9_hasOpenSum_33
      · skip
        have c37 : ¬ (wtg12.toInt ≤ v2_2.toInt) := fun q => c37 ((z_le rfl rfl).mpr q)
        refine lv_aload_n hx hb dX9_hasOpenSum_10 rfl (lv_at hl 1 rfl) ?_
        refine va_get (D := g.1) (ci := 9) (v := .ref (ad 13)) (C := RX9) (T := TX9) (N := 47) hx hb hg inG9 hown hK hP 0 (zw_at (by omega) hs1) rfl 25 (by decide) (hg _ mm_983) (fun _ h9 => h9) rfl dX9_hasOpenSum_11 ?_
        refine lv_iload_n hx hb dX9_hasOpenSum_14 rfl (lv_at hl 0 rfl) ?_
        obtain ⟨f40, hs39⟩ := a9_13 hI.1
        refine va_iald hx hb hK hP 13 0 (zw_at (by omega) hs39) rfl (z_in rfl (by omega) (by omega)) dX9_hasOpenSum_15 ?_
        refine lv_topi (fun y41 ey41 => ?_)
        refine lv_ldc hx hb hown (hg _ mm_1227) dX9_hasOpenSum_16 ?_
        refine lv_idiv hx hb dX9_hasOpenSum_18 (by decide) ?_
        refine lv_topi (fun x42 ex42 => ?_)
        refine lv_bipush (v := 14) hx hb dX9_hasOpenSum_19 (by decide) ?_
        refine lv_icmp_ne (tgt := 26) hx hb dX9_hasOpenSum_21 (by decide) (fun c43 => ?_) (fun c43 => ?_)
        · skip
          have c43 : ¬ (x42.toInt = 14) := fun q => c43 ((z_eq rfl (by decide : (14 : Int32).toInt = 14)).mpr q)
          have hno := zno_step hs39 j1_2 rfl (by omega) (by omega) ey41 ex42 (by omega)
          obtain ⟨x44, ex44⟩ : ∃ y : Int32, y = v2_2 + 1 := ⟨_, rfl⟩
          have tx44 : x44.toInt = v2_2.toInt + 1 := by rw [ex44]; exact z_add rfl (by decide : (1 : Int32).toInt = 1) (by omega) (by omega)
          refine lv_iinc (v := x44) (lv' := [(2, .int x44), (0, .ref (ad 0)), (1, .int base)]) hx hb dX9_hasOpenSum_26 hl (k := 0) rfl (by rw [ex44]; rfl) (by decide) rfl (fun ls hl => ?_)
          have hno2 : zno (ct 13) base.toInt x44.toInt (zfi 22 (ct 0)) := by rw [show x44.toInt = v2_2.toInt + 1 by omega]; exact hno
          refine lv_goto (tgt := 2) hx hb dX9_hasOpenSum_29 (by decide) ?_
          exact ih2 x44 ls (by omega) (by first | assumption | omega | decide) (by first | assumption | omega | decide) (by first | assumption | omega | decide) (by first | assumption | omega | decide) (lv_sub hl [0, 1, 2] rfl)
        · skip
          have c43 : x42.toInt = 14 := (z_eq rfl (by decide : (14 : Int32).toInt = 14)).mp c43
          refine lv_iconst (v := 1) hx hb dX9_hasOpenSum_24 (by decide) ?_
          have q45 : (1 : Int32).toInt = 1 := by decide
          exact W.zret (v := 1) hx hb hr rfl (fun t ht hW => ⟨1, rfl, Or.inl ⟨rfl, zos_at hs39 (by omega) (by omega) (by omega) ey41 ex42 (by omega)⟩, ht⟩) (fun q hq => by cases hq) dX9_hasOpenSum_25
  have hz0 : zno (ct 13) base.toInt base.toInt (zfi 22 (ct 0)) := zno_0 (by omega)
  exact loop2 ((120 - base.toInt : Int).toNat + 1) base ls (by omega) (by first | assumption | omega | decide) (by first | assumption | omega | decide) (by first | assumption | omega | decide) (by first | assumption | omega | decide) (lv_sub hl [0, 1, 2] rfl)
