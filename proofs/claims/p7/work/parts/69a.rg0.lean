set_option maxHeartbeats 4000000 in
set_option maxRecDepth 100000 in
theorem k_X9_changesBack (l : Launch) (g : zG) (sz : Nat) (ad : Nat → Nat) (me : Int32) (ct : Nat → va_E) (ln : Int32) (p0 : Int32) (tk : Int32) (many : Nat) (hl_ln : 0 ≤ ln.toInt ∧ ln.toInt ≤ 7) (hl_p0 : 0 ≤ p0.toInt ∧ p0.toInt ≤ 15) (hI : IR g ad me ct) (hcb : CBL (zar (ct 20)) (zar (ct 23)) (zar (ct 23)) (zar (ct 24)) (zar (ct 25)) (zar (ct 26)) me.toInt tk ln.toInt.toNat many 1 p0.toInt) : Met l yX9_changesBack (zW yX9_changesBack cX9_changesBack 7 none) ({ frames := 0, cells := 0, slots := 0, locals := 0 }) (va_Pc [.ref (ad 0), .int ln, .int p0] (zA g (zw 32 ad ct) sz)) (va_Qv (fun (_ : Unit) => True) (fun _ t => ∃ ct2 : Nat → va_E, zP g (zw 32 ad ct2) t.heap ∧ va_D (va_A (zw 32 ad ct) sz) (zw 32 ad ct2) ∧ IR g ad me ct2 ∧ (MI (zar (ct 20)) (zar (ct2 23)) (zar (ct2 24)) me.toInt tk ∧ DM (zar (ct 23)) (zar (ct2 23)) ln.toInt.toNat) ∧ (ct2 0 = ct 0) ∧ (ct2 5 = ct 5) ∧ (ct2 10 = ct 10) ∧ (ct2 20 = ct 20) ∧ (ct2 25 = ct 25)) (va_A (zw 32 ad ct) sz)) 0 0 (va_A (zw 32 ad ct) sz) := by
  refine Met.ofW (cc := cX9_changesBack) (maxL := 7) (ret := none) (by decide) rfl ?_
  intro p e s m args below meth c s₁ B hml hv
  obtain ⟨rfl, hsz, hP, hK, hD0, hN⟩ := hv
  have hx := B.exec
  have hb := B.bytes
  have hr := B.returns
  have hg := zW.law (atoms_spec (ws := (zW yX9_changesBack cX9_changesBack 7 none)) B.pre)
  have hown : s.vm.findClass RX9 = some m.cls := findClass_of_methodNamed B.named
  have hlocks := B.notSynchronized
  have hpe0 := hI.1.1
  subst hsz
  have hD := hD0.self (sz := s.heap.size)
  generalize hAe : va_A (zw 32 ad ct) s.heap.size = A at hD ⊢
  have hA : ∀ q : Nat, s.heap.size ≤ q → A q := fun q h => by rw [← hAe]; exact Or.inr h
  have hS : va_S A s.heap s.heap [] := va_S.rf
  have hl := lv_entry ([.ref (ad 0), .int ln, .int p0]) (n := 7) (Nat.le_of_ble_eq_true rfl)
  rw [lg_entry_eq]
  generalize (lg_sl ([.ref (ad 0), .int ln, .int p0]) ++ List.replicate (7 - (lg_sl ([.ref (ad 0), .int ln, .int p0])).length) Slot.unset).toArray = ls at hl ⊢
  have hl : lv_has ls 7 [(0, .ref (ad 0)), (1, .int ln), (2, .int p0)] := hl
  have hc0 : ct 0 = ct 0 := rfl
  have hc5 : ct 5 = ct 5 := rfl
  have hc10 : ct 10 = ct 10 := rfl
  have hc20 : ct 20 = ct 20 := rfl
  have hc25 : ct 25 = ct 25 := rfl
  have q0 : ((0 : Int32)).toInt = 0 := by decide
  have q1 : ((1 : Int32)).toInt = 1 := by decide
  refine lv_iload_n hx hb dX9_changesBack_0 rfl (lv_at hl 2 rfl) ?_
  refine lv_istore_n (lv' := [(3, .int p0), (0, .ref (ad 0)), (1, .int ln), (2, .int p0)]) hx hb dX9_changesBack_1 rfl hl (by decide) rfl (fun ls hl => ?_)
  refine lv_iconst (v := 1) hx hb dX9_changesBack_2 (by decide) ?_
  refine lv_istore (lv' := [(4, .int 1), (3, .int p0), (0, .ref (ad 0)), (1, .int ln), (2, .int p0)]) hx hb dX9_changesBack_3 hl (by decide) rfl (fun ls hl => ?_)
  obtain ⟨bks2, lks3, gos4, shn5, tpd6, pl07, ln08, flt9, opn10, cmy11, wtg12, nm013, mst14, sus15, cut16, h17, h18, h19, h20, h21, h22, h23, h24, h25, h26, h27, h28, h29, h30, h31, h32, h33, h34, h35, h36, hs1⟩ := a9_0 hI.1
  have loop5 : ∀ (n5 : Nat) (v4_5 : Int32) (v3_5 : Int32) (ct37 : Nat → va_E) (H : Heap) (locs : List Loc) (ls : Array Slot), ((((zcm (zar (ct 25)) (zar (ct 26)) many v4_5.toInt v3_5.toInt : Nat) : Int) : Int).toNat < n5) → (0 ≤ v4_5.toInt ∧ v4_5.toInt ≤ 1) → (-1 ≤ v3_5.toInt ∧ v3_5.toInt ≤ 15) → (CBL (zar (ct 20)) (zar (ct 23)) (zar (ct37 23)) (zar (ct37 24)) (zar (ct 25)) (zar (ct 26)) me.toInt tk ln.toInt.toNat many v4_5.toInt v3_5.toInt) → (ct37 0 = ct 0) → (ct37 5 = ct 5) → (ct37 10 = ct 10) → (ct37 20 = ct 20) → (ct37 25 = ct 25) → (IR g ad me ct37) → zP g (zw 32 ad ct37) H → va_D A (zw 32 ad ct37) → va_S A s.heap H locs → lv_has ls 7 [(4, .int v4_5), (3, .int v3_5), (0, .ref (ad 0)), (1, .int ln), (2, .int p0)] → W p l e (headSpec (zW yX9_changesBack cX9_changesBack 7 none) ({ frames := 0, cells := 0, slots := 0, locals := 0 })).room s m ([.ref (ad 0), .int ln, .int p0] : List Value).toArray below meth c H locs 0 0 (MQ below (va_Qv (fun (_ : Unit) => True) (fun _ t => ∃ ct2 : Nat → va_E, zP g (zw 32 ad ct2) t.heap ∧ va_D A (zw 32 ad ct2) ∧ IR g ad me ct2 ∧ (MI (zar (ct 20)) (zar (ct2 23)) (zar (ct2 24)) me.toInt tk ∧ DM (zar (ct 23)) (zar (ct2 23)) ln.toInt.toNat) ∧ (ct2 0 = ct 0) ∧ (ct2 5 = ct 5) ∧ (ct2 10 = ct 10) ∧ (ct2 20 = ct 20) ∧ (ct2 25 = ct 25)) A) ([.ref (ad 0), .int ln, .int p0] : List Value).toArray s 0 0 A) (F0 m 5 ls []) := by
    intro n5
    induction n5 with
    | zero =>
      intro v4_5 v3_5 ct37 H locs ls hn5 b4_5 b3_5 j0_5 hc0 hc5 hc10 hc20 hc25 hI hP hD hS hl
      exact absurd hn5 (Nat.not_lt_zero _)
    | succ n5 ih5 =>
      intro v4_5 v3_5 ct37 H locs ls hn5 b4_5 b3_5 j0_5 hc0 hc5 hc10 hc20 hc25 hI hP hD hS hl
      refine lv_iload hx hb dX9_changesBack_5 (lv_at hl 0 rfl) ?_
      refine lv_if_eq (tgt := 62) hx hb dX9_changesBack_7 (by decide) (fun c38 => ?_) (fun c38 => ?_)
      · skip
        have c38 : v4_5.toInt = 0 := (z_eq rfl (by decide : (0 : Int32).toInt = 0)).mp c38
        exact W.vret hx hb hr (fun t ht hW => ⟨⟨(), rfl, trivial, ct37, by rw [ht]; exact hP, hD, hI, (CBL_end j0_5 (by omega)), (by first | assumption | omega), (by first | assumption | omega), (by first | assumption | omega), (by first | assumption | omega), (by first | assumption | omega)⟩, hS.F ht⟩) hS.2.2 dX9_changesBack_62
      · skip
        have c38 : ¬ (v4_5.toInt = 0) := fun q => c38 ((z_eq rfl (by decide : (0 : Int32).toInt = 0)).mpr q)
        obtain ⟨hm1, hq0, hq15⟩ := CBL_rg j0_5 (by omega)
        refine lv_aload_n hx hb dX9_changesBack_10 rfl (lv_at hl 2 rfl) ?_
        obtain ⟨bks40, lks41, gos42, shn43, tpd44, pl045, ln046, flt47, opn48, cmy49, wtg50, nm051, mst52, sus53, cut54, h55, h56, h57, h58, h59, h60, h61, h62, h63, h64, h65, h66, h67, h68, h69, h70, h71, h72, h73, h74, hs39⟩ := a9_0 hI.1
        refine va_get (D := g.1) (ci := 9) (v := .ref (ad 25)) (C := RX9) (T := TX9) (N := 47) hx hb hg inG9 hown hK hP 0 (zw_at (by omega) hs39) rfl 37 (by decide) (hg _ mm_995) (fun _ h9 => h9) rfl dX9_changesBack_11 ?_
        refine lv_iload_n hx hb dX9_changesBack_14 rfl (lv_at hl 1 rfl) ?_
        obtain ⟨f76, hp77, hs75⟩ := a9_25 hI.1
        refine va_iald hx hb hK hP 25 0 (zw_at (by omega) hs75) rfl (z_in rfl (by omega) (by omega)) dX9_changesBack_15 ?_
        refine lv_topi (fun y78 ey78 => ?_)
        have hy78 := hp77 _ (z_clt (x := v3_5) rfl (by omega) (by omega))
        rw [← ey78] at hy78
        have hy78 : 0 ≤ y78.toInt ∧ y78.toInt ≤ 7 := hy78
        refine lv_istore (lv' := [(5, .int y78), (4, .int v4_5), (3, .int v3_5), (0, .ref (ad 0)), (1, .int ln), (2, .int p0)]) hx hb dX9_changesBack_16 hl (by decide) rfl (fun ls hl => ?_)
        refine lv_aload_n hx hb dX9_changesBack_18 rfl (lv_at hl 3 rfl) ?_
        refine va_get (D := g.1) (ci := 9) (v := .ref (ad 23)) (C := RX9) (T := TX9) (N := 47) hx hb hg inG9 hown hK hP 0 (zw_at (by omega) hs39) rfl 35 (by decide) (hg _ mm_993) (fun _ h9 => h9) rfl dX9_changesBack_19 ?_
        refine lv_iload hx hb dX9_changesBack_22 (lv_at hl 0 rfl) ?_
        obtain ⟨f80, hp81, hs79⟩ := a9_23 hI.1
        refine va_iald hx hb hK hP 23 0 (zw_at (by omega) hs79) rfl (z_in rfl (by omega) (by omega)) dX9_changesBack_24 ?_
        refine lv_topi (fun y82 ey82 => ?_)
        have hy82 := hp81 _ (z_clt (x := y78) rfl (by omega) (by omega))
        rw [← ey82] at hy82
        have hy82 : (-1) ≤ y82.toInt ∧ y82.toInt ≤ 15 := hy82
        refine lv_istore (lv' := [(6, .int y82), (5, .int y78), (4, .int v4_5), (3, .int v3_5), (0, .ref (ad 0)), (1, .int ln), (2, .int p0)]) hx hb dX9_changesBack_25 hl (by decide) rfl (fun ls hl => ?_)
        obtain ⟨f84, hp85, hs83⟩ := a9_24 hI.1
        refine lv_aload_n hx hb dX9_changesBack_27 rfl (lv_at hl 4 rfl) ?_
        refine va_get (D := g.1) (ci := 9) (v := .ref (ad 24)) (C := RX9) (T := TX9) (N := 47) hx hb hg inG9 hown hK hP 0 (zw_at (by omega) hs39) rfl 36 (by decide) (hg _ mm_994) (fun _ h9 => h9) rfl dX9_changesBack_28 ?_
        refine lv_iload_n hx hb dX9_changesBack_31 rfl (lv_at hl 3 rfl) ?_
        refine lv_iload hx hb dX9_changesBack_32 (lv_at hl 1 rfl) ?_
        refine va_iast hx hb hK hP hD hS 24 0 (zw_at (by omega) hs83) rfl (z_in rfl (by omega) (by omega)) dX9_changesBack_34 (fun H locs hP hD hS => ?_)
        have hp87 : ∀ j : Nat, j < 16 → (fun x : Int32 => (-1) ≤ x.toInt ∧ x.toInt ≤ 7) ((upd f84 (Int32.toNatClampNeg v3_5) y78) j) := fun j hj => by
          unfold upd
          by_cases q : j = Int32.toNatClampNeg v3_5
          · rw [if_pos q]; exact (show (-1) ≤ (y78 : Int32).toInt ∧ (y78 : Int32).toInt ≤ 7 from (by first | omega | decide))
          · rw [if_neg q]; exact hp85 j hj
        have hP : zP g ((zw 32 ad ct37).set 24 (ad 24, .inl (g.2 0, 16, .inl (upd f84 (Int32.toNatClampNeg v3_5) y78)))) H := hP
        have hD : va_D A ((zw 32 ad ct37).set 24 (ad 24, .inl (g.2 0, 16, .inl (upd f84 (Int32.toNatClampNeg v3_5) y78)))) := hD
        rw [zw_set (by omega)] at hP hD
        obtain ⟨ct88, ec89⟩ : ∃ z : Nat → va_E, z = va_up ct37 24 (.inl (g.2 0, 16, .inl (upd f84 (Int32.toNatClampNeg v3_5) y78))) := ⟨_, rfl⟩
        rw [← ec89] at hP hD
        have hI : IR g ad me ct88 := by rw [ec89]; exact upR hI (by decide) (i9_24 ⟨_, hp87, rfl⟩)
        have hc0 : ct88 0 = ct 0 := by rw [ec89]; exact (va_up_ne _ _ (by omega)).trans hc0
        have hc5 : ct88 5 = ct 5 := by rw [ec89]; exact (va_up_ne _ _ (by omega)).trans hc5
        have hc10 : ct88 10 = ct 10 := by rw [ec89]; exact (va_up_ne _ _ (by omega)).trans hc10
        have hc20 : ct88 20 = ct 20 := by rw [ec89]; exact (va_up_ne _ _ (by omega)).trans hc20
        have hc25 : ct88 25 = ct 25 := by rw [ec89]; exact (va_up_ne _ _ (by omega)).trans hc25
        have hs90 : ct88 0 = .inr (9, [.int me, .ref (ad 1), .ref (ad 2), .ref (ad 3), .ref (ad 4), .int bks40, .int lks41, .int gos42, .int shn43, .ref (ad 5), .ref (ad 6), .ref (ad 7), .ref (ad 8), .ref (ad 9), .ref (ad 10), .ref (ad 11), .int tpd44, .int pl045, .int ln046, .int flt47, .int opn48, .int cmy49, .int wtg50, .int nm051, .ref (ad 12), .ref (ad 13), .ref (ad 14), .ref (ad 15), .ref (ad 16), .ref (ad 17), .ref (ad 18), .ref (ad 19), .ref (ad 20), .ref (ad 21), .ref (ad 22), .ref (ad 23), .ref (ad 24), .ref (ad 25), .ref (ad 26), .ref (ad 27), .int mst52, .int sus53, .ref (ad 28), .ref (ad 29), .ref (ad 30), .ref (ad 31), .int cut54]) := by rw [ec89, va_up_ne _ _ (by omega)]; exact hs39
        have hs91 : ct88 25 = .inl (g.2 0, 16, .inl f76) := by rw [ec89, va_up_ne _ _ (by omega)]; exact hs75
        have hs92 : ct88 23 = .inl (g.2 0, 8, .inl f80) := by rw [ec89, va_up_ne _ _ (by omega)]; exact hs79
        have hs93 : ct88 24 = .inl (g.2 0, 16, .inl (upd f84 (Int32.toNatClampNeg v3_5) y78)) := by rw [ec89]; exact va_up_self _ _ _
        refine lv_aload_n hx hb dX9_changesBack_35 rfl (lv_at hl 4 rfl) ?_
        refine va_get (D := g.1) (ci := 9) (v := .ref (ad 23)) (C := RX9) (T := TX9) (N := 47) hx hb hg inG9 hown hK hP 0 (zw_at (by omega) hs90) rfl 35 (by decide) (hg _ mm_993) (fun _ h9 => h9) rfl dX9_changesBack_36 ?_
        refine lv_iload hx hb dX9_changesBack_39 (lv_at hl 1 rfl) ?_
        refine lv_iload_n hx hb dX9_changesBack_41 rfl (lv_at hl 3 rfl) ?_
        refine va_iast hx hb hK hP hD hS 23 0 (zw_at (by omega) hs92) rfl (z_in rfl (by omega) (by omega)) dX9_changesBack_42 (fun H locs hP hD hS => ?_)
        have hp95 : ∀ j : Nat, j < 8 → (fun x : Int32 => (-1) ≤ x.toInt ∧ x.toInt ≤ 15) ((upd f80 (Int32.toNatClampNeg y78) v3_5) j) := fun j hj => by
          unfold upd
          by_cases q : j = Int32.toNatClampNeg y78
          · rw [if_pos q]; exact (show (-1) ≤ (v3_5 : Int32).toInt ∧ (v3_5 : Int32).toInt ≤ 15 from (by first | omega | decide))
          · rw [if_neg q]; exact hp81 j hj
        have hP : zP g ((zw 32 ad ct88).set 23 (ad 23, .inl (g.2 0, 8, .inl (upd f80 (Int32.toNatClampNeg y78) v3_5)))) H := hP
        have hD : va_D A ((zw 32 ad ct88).set 23 (ad 23, .inl (g.2 0, 8, .inl (upd f80 (Int32.toNatClampNeg y78) v3_5)))) := hD
        rw [zw_set (by omega)] at hP hD
        obtain ⟨ct96, ec97⟩ : ∃ z : Nat → va_E, z = va_up ct88 23 (.inl (g.2 0, 8, .inl (upd f80 (Int32.toNatClampNeg y78) v3_5))) := ⟨_, rfl⟩
        rw [← ec97] at hP hD
        have hI : IR g ad me ct96 := by rw [ec97]; exact upR hI (by decide) (i9_23 ⟨_, hp95, rfl⟩)
        have hc0 : ct96 0 = ct 0 := by rw [ec97]; exact (va_up_ne _ _ (by omega)).trans hc0
        have hc5 : ct96 5 = ct 5 := by rw [ec97]; exact (va_up_ne _ _ (by omega)).trans hc5
        have hc10 : ct96 10 = ct 10 := by rw [ec97]; exact (va_up_ne _ _ (by omega)).trans hc10
        have hc20 : ct96 20 = ct 20 := by rw [ec97]; exact (va_up_ne _ _ (by omega)).trans hc20
        have hc25 : ct96 25 = ct 25 := by rw [ec97]; exact (va_up_ne _ _ (by omega)).trans hc25
        have hs98 : ct96 0 = .inr (9, [.int me, .ref (ad 1), .ref (ad 2), .ref (ad 3), .ref (ad 4), .int bks40, .int lks41, .int gos42, .int shn43, .ref (ad 5), .ref (ad 6), .ref (ad 7), .ref (ad 8), .ref (ad 9), .ref (ad 10), .ref (ad 11), .int tpd44, .int pl045, .int ln046, .int flt47, .int opn48, .int cmy49, .int wtg50, .int nm051, .ref (ad 12), .ref (ad 13), .ref (ad 14), .ref (ad 15), .ref (ad 16), .ref (ad 17), .ref (ad 18), .ref (ad 19), .ref (ad 20), .ref (ad 21), .ref (ad 22), .ref (ad 23), .ref (ad 24), .ref (ad 25), .ref (ad 26), .ref (ad 27), .int mst52, .int sus53, .ref (ad 28), .ref (ad 29), .ref (ad 30), .ref (ad 31), .int cut54]) := by rw [ec97, va_up_ne _ _ (by omega)]; exact hs90
        have hs99 : ct96 25 = .inl (g.2 0, 16, .inl f76) := by rw [ec97, va_up_ne _ _ (by omega)]; exact hs91
        have hs100 : ct96 24 = .inl (g.2 0, 16, .inl (upd f84 (Int32.toNatClampNeg v3_5) y78)) := by rw [ec97, va_up_ne _ _ (by omega)]; exact hs93
        have hs101 : ct96 23 = .inl (g.2 0, 8, .inl (upd f80 (Int32.toNatClampNeg y78) v3_5)) := by rw [ec97]; exact va_up_self _ _ _
        have hst := CBL_step (F := zar (ct 20)) (H0 := zar (ct 23)) (A := zar (ct 25)) (W := zar (ct 26)) (pe := me.toInt) (tk := tk) (line := ln.toInt.toNat) (many := many) (xq := v3_5) (xa := y78) (xw := y82) (q := v3_5.toInt) (H := f80) (G := f84) (by rw [← zar_of hs79, ← zar_of hs83, ← hm1]; exact j0_5) rfl (by rw [zar_of (hc25.symm.trans hs99)]; exact ey78) ey82 (by omega)
        rw [← zar_of hs101, ← zar_of hs100] at hst
        refine lv_iload hx hb dX9_changesBack_43 (lv_at hl 1 rfl) ?_
        refine lv_iload_n hx hb dX9_changesBack_45 rfl (lv_at hl 5 rfl) ?_
        refine lv_icmp_eq (tgt := 53) hx hb dX9_changesBack_46 (by decide) (fun c102 => ?_) (fun c102 => ?_)
        · skip
          have c102 : y78.toInt = ln.toInt := (z_eq rfl rfl).mp c102
          refine lv_iconst (v := 0) hx hb dX9_changesBack_53 (by decide) ?_
          refine lv_istore (lv' := [(4, .int 0), (6, .int y82), (5, .int y78), (3, .int v3_5), (0, .ref (ad 0)), (1, .int ln), (2, .int p0)]) hx hb dX9_changesBack_54 hl (by decide) rfl (fun ls hl => ?_)
          refine lv_iload hx hb dX9_changesBack_56 (lv_at hl 1 rfl) ?_
          refine lv_istore_n (lv' := [(3, .int y82), (4, .int 0), (6, .int y82), (5, .int y78), (0, .ref (ad 0)), (1, .int ln), (2, .int p0)]) hx hb dX9_changesBack_58 rfl hl (by decide) rfl (fun ls hl => ?_)
          have hcl : CBL (zar (ct 20)) (zar (ct 23)) (zar (ct96 23)) (zar (ct96 24)) (zar (ct 25)) (zar (ct 26)) me.toInt tk ln.toInt.toNat many ((0 : Int32)).toInt y82.toInt := hst.1 (by omega)
          have hzc : zcm (zar (ct 25)) (zar (ct 26)) many ((0 : Int32)).toInt y82.toInt < zcm (zar (ct 25)) (zar (ct 26)) many v4_5.toInt v3_5.toInt := by
            rw [hm1]
            exact Nat.succ_pos _
          refine lv_goto (tgt := 5) hx hb dX9_changesBack_59 (by decide) ?_
          exact ih5 (0 : Int32) y82 ct96 _ _ ls (by omega) (by first | assumption | omega | decide) (by first | assumption | omega | decide) (by first | assumption | omega | decide) (by first | assumption | omega | decide) (by first | assumption | omega | decide) (by first | assumption | omega | decide) (by first | assumption | omega | decide) (by first | assumption | omega | decide) hI hP hD hS (lv_sub hl [1, 0, 4, 5, 6] rfl)
        · skip
          have c102 : ¬ (y78.toInt = ln.toInt) := fun q => c102 ((z_eq rfl rfl).mpr q)
          refine lv_iconst (v := 1) hx hb dX9_changesBack_49 (by decide) ?_
          refine lv_goto (tgt := 54) hx hb dX9_changesBack_50 (by decide) ?_
          refine lv_istore (lv' := [(4, .int 1), (6, .int y82), (5, .int y78), (3, .int v3_5), (0, .ref (ad 0)), (1, .int ln), (2, .int p0)]) hx hb dX9_changesBack_54 hl (by decide) rfl (fun ls hl => ?_)
          refine lv_iload hx hb dX9_changesBack_56 (lv_at hl 1 rfl) ?_
          refine lv_istore_n (lv' := [(3, .int y82), (4, .int 1), (6, .int y82), (5, .int y78), (0, .ref (ad 0)), (1, .int ln), (2, .int p0)]) hx hb dX9_changesBack_58 rfl hl (by decide) rfl (fun ls hl => ?_)
          have hcl : CBL (zar (ct 20)) (zar (ct 23)) (zar (ct96 23)) (zar (ct96 24)) (zar (ct 25)) (zar (ct 26)) me.toInt tk ln.toInt.toNat many ((1 : Int32)).toInt y82.toInt := (hst.2 (by omega)).1
          have hzc : zcm (zar (ct 25)) (zar (ct 26)) many ((1 : Int32)).toInt y82.toInt < zcm (zar (ct 25)) (zar (ct 26)) many v4_5.toInt v3_5.toInt := by
            rw [hm1]
            exact (hst.2 (by omega)).2
          refine lv_goto (tgt := 5) hx hb dX9_changesBack_59 (by decide) ?_
          exact ih5 (1 : Int32) y82 ct96 _ _ ls (by omega) (by first | assumption | omega | decide) (by first | assumption | omega | decide) (by first | assumption | omega | decide) (by first | assumption | omega | decide) (by first | assumption | omega | decide) (by first | assumption | omega | decide) (by first | assumption | omega | decide) (by first | assumption | omega | decide) hI hP hD hS (lv_sub hl [1, 0, 4, 5, 6] rfl)
  have hcb1 : CBL (zar (ct 20)) (zar (ct 23)) (zar (ct 23)) (zar (ct 24)) (zar (ct 25)) (zar (ct 26)) me.toInt tk ln.toInt.toNat many ((1 : Int32)).toInt p0.toInt := hcb
  exact loop5 ((((zcm (zar (ct 25)) (zar (ct 26)) many (1 : Int32).toInt p0.toInt : Nat) : Int) : Int).toNat + 1) (1 : Int32) p0 ct _ _ ls (by omega) (by first | assumption | omega | decide) (by first | assumption | omega | decide) (by first | assumption | omega | decide) (by first | assumption | omega | decide) (by first | assumption | omega | decide) (by first | assumption | omega | decide) (by first | assumption | omega | decide) (by first | assumption | omega | decide) hI hP hD hS (lv_sub hl [0, 1, 2, 3, 4] rfl)

set_option maxHeartbeats 4000000 in
set_option maxRecDepth 100000 in
theorem k_X9_findsOne (l : Launch) (g : zG) (sz : Nat) (ad : Nat → Nat) (me : Int32) (ct : Nat → va_E) (ln : Int32) (tk0 : Int32) (hl_ln : 0 ≤ ln.toInt ∧ ln.toInt ≤ 7) (hl_tk0 : 0 ≤ tk0.toInt ∧ tk0.toInt ≤ 65535) (hI : IR g ad me ct) (hmi : MI (zar (ct 20)) (zar (ct 23)) (zar (ct 24)) me.toInt tk0) (hln : (zar (ct 23) ln.toInt.toNat).toInt = -1) : Met l yX9_findsOne (zW yX9_findsOne cX9_findsOne 7 (some .boolean)) ({ frames := 1, cells := 0, slots := 0, locals := 26 }) (va_Pc [.ref (ad 0), .int ln, .int tk0] (zA g (zw 32 ad ct) sz)) (va_Qi (fun (r : Int32) (u : Int32) => (r = 1 ∧ (u = 1)) ∨ (r = 0 ∧ (u = 0))) (fun (u : Int32) t => ∃ ct2 : Nat → va_E, zP g (zw 32 ad ct2) t.heap ∧ va_D (va_A (zw 32 ad ct) sz) (zw 32 ad ct2) ∧ IR g ad me ct2 ∧ (u = 1 → MI (zar (ct 20)) (zar (ct2 23)) (zar (ct2 24)) me.toInt tk0 ∧ DM (zar (ct 23)) (zar (ct2 23)) ln.toInt.toNat) ∧ (u = 0 → NM (zar (ct 20)) (zar (ct 23)) me.toInt tk0 ln.toInt.toNat) ∧ (ct2 0 = ct 0) ∧ (ct2 5 = ct 5) ∧ (ct2 10 = ct 10) ∧ (ct2 20 = ct 20)) (va_A (zw 32 ad ct) sz)) 0 0 (va_A (zw 32 ad ct) sz) := by
  refine Met.ofW (cc := cX9_findsOne) (maxL := 7) (ret := (some .boolean)) (by decide) rfl ?_
  intro p e s m args below meth c s₁ B hml hv
  obtain ⟨rfl, hsz, hP, hK, hD0, hN⟩ := hv
  have hx := B.exec
  have hb := B.bytes
  have hr := B.returns
  have hg := zW.law (atoms_spec (ws := (zW yX9_findsOne cX9_findsOne 7 (some .boolean))) B.pre)
  have hown : s.vm.findClass RX9 = some m.cls := findClass_of_methodNamed B.named
  have hlocks := B.notSynchronized
  have hpe0 := hI.1.1
  subst hsz
  have hD := hD0.self (sz := s.heap.size)
  generalize hAe : va_A (zw 32 ad ct) s.heap.size = A at hD ⊢
  have hA : ∀ q : Nat, s.heap.size ≤ q → A q := fun q h => by rw [← hAe]; exact Or.inr h
  have hS : va_S A s.heap s.heap [] := va_S.rf
  have hl := lv_entry ([.ref (ad 0), .int ln, .int tk0]) (n := 7) (Nat.le_of_ble_eq_true rfl)
  rw [lg_entry_eq]
  generalize (lg_sl ([.ref (ad 0), .int ln, .int tk0]) ++ List.replicate (7 - (lg_sl ([.ref (ad 0), .int ln, .int tk0])).length) Slot.unset).toArray = ls at hl ⊢
  have hl : lv_has ls 7 [(0, .ref (ad 0)), (1, .int ln), (2, .int tk0)] := hl
  have hc0 : ct 0 = ct 0 := rfl
  have hc5 : ct 5 = ct 5 := rfl
  have hc10 : ct 10 = ct 10 := rfl
  have hc20 : ct 20 = ct 20 := rfl
  have hc23 : ct 23 = ct 23 := rfl
  have hc24 : ct 24 = ct 24 := rfl
  have q0 : ((0 : Int32)).toInt = 0 := by decide
  have q1 : ((1 : Int32)).toInt = 1 := by decide
  refine lv_iload_n hx hb dX9_findsOne_0 rfl (lv_at hl 2 rfl) ?_
  refine lv_istore_n (lv' := [(3, .int tk0), (0, .ref (ad 0)), (1, .int ln), (2, .int tk0)]) hx hb dX9_findsOne_1 rfl hl (by decide) rfl (fun ls hl => ?_)
  refine lv_iconst (v := 1) hx hb dX9_findsOne_2 (by decide) ?_
  refine lv_istore (lv' := [(4, .int 1), (3, .int tk0), (0, .ref (ad 0)), (1, .int ln), (2, .int tk0)]) hx hb dX9_findsOne_3 hl (by decide) rfl (fun ls hl => ?_)
  refine lv_aload_n hx hb dX9_findsOne_5 rfl (lv_at hl 2 rfl) ?_
  obtain ⟨bks2, lks3, gos4, shn5, tpd6, pl07, ln08, flt9, opn10, cmy11, wtg12, nm013, mst14, sus15, cut16, h17, h18, h19, h20, h21, h22, h23, h24, h25, h26, h27, h28, h29, h30, h31, h32, h33, h34, h35, h36, hs1⟩ := a9_0 hI.1
  refine va_get (D := g.1) (ci := 9) (v := .ref (ad 26)) (C := RX9) (T := TX9) (N := 47) hx hb hg inG9 hown hK hP 0 (zw_at (by omega) hs1) rfl 38 (by decide) (hg _ mm_996) (fun _ h9 => h9) rfl dX9_findsOne_6 ?_
  refine lv_iconst (v := 0) hx hb dX9_findsOne_9 (by decide) ?_
  refine lv_iload_n hx hb dX9_findsOne_10 rfl (lv_at hl 3 rfl) ?_
  obtain ⟨f38, hp39, hs37⟩ := a9_26 hI.1
  refine va_iast hx hb hK hP hD hS 26 0 (zw_at (by omega) hs37) rfl (z_in (by decide : (0 : Int32).toInt = 0) (by omega) (by omega)) dX9_findsOne_11 (fun H locs hP hD hS => ?_)
  have hp41 : ∀ j : Nat, j < 16 → (fun x : Int32 => 0 ≤ x.toInt ∧ x.toInt ≤ 7) ((upd f38 (Int32.toNatClampNeg 0) ln) j) := fun j hj => by
    unfold upd
    by_cases q : j = Int32.toNatClampNeg 0
    · rw [if_pos q]; exact (show 0 ≤ (ln : Int32).toInt ∧ (ln : Int32).toInt ≤ 7 from (by first | omega | decide))
    · rw [if_neg q]; exact hp39 j hj
  have hP : zP g ((zw 32 ad ct).set 26 (ad 26, .inl (g.2 0, 16, .inl (upd f38 (Int32.toNatClampNeg 0) ln)))) H := hP
  have hD : va_D A ((zw 32 ad ct).set 26 (ad 26, .inl (g.2 0, 16, .inl (upd f38 (Int32.toNatClampNeg 0) ln)))) := hD
  rw [zw_set (by omega)] at hP hD
  obtain ⟨ct42, ec43⟩ : ∃ z : Nat → va_E, z = va_up ct 26 (.inl (g.2 0, 16, .inl (upd f38 (Int32.toNatClampNeg 0) ln))) := ⟨_, rfl⟩
  rw [← ec43] at hP hD
  have hI : IR g ad me ct42 := by rw [ec43]; exact upR hI (by decide) (i9_26 ⟨_, hp41, rfl⟩)
  have hc0 : ct42 0 = ct 0 := by rw [ec43]; exact (va_up_ne _ _ (by omega)).trans hc0
  have hc5 : ct42 5 = ct 5 := by rw [ec43]; exact (va_up_ne _ _ (by omega)).trans hc5
  have hc10 : ct42 10 = ct 10 := by rw [ec43]; exact (va_up_ne _ _ (by omega)).trans hc10
  have hc20 : ct42 20 = ct 20 := by rw [ec43]; exact (va_up_ne _ _ (by omega)).trans hc20
  have hc23 : ct42 23 = ct 23 := by rw [ec43]; exact (va_up_ne _ _ (by omega)).trans hc23
  have hc24 : ct42 24 = ct 24 := by rw [ec43]; exact (va_up_ne _ _ (by omega)).trans hc24
  have hs44 : ct42 0 = .inr (9, [.int me, .ref (ad 1), .ref (ad 2), .ref (ad 3), .ref (ad 4), .int bks2, .int lks3, .int gos4, .int shn5, .ref (ad 5), .ref (ad 6), .ref (ad 7), .ref (ad 8), .ref (ad 9), .ref (ad 10), .ref (ad 11), .int tpd6, .int pl07, .int ln08, .int flt9, .int opn10, .int cmy11, .int wtg12, .int nm013, .ref (ad 12), .ref (ad 13), .ref (ad 14), .ref (ad 15), .ref (ad 16), .ref (ad 17), .ref (ad 18), .ref (ad 19), .ref (ad 20), .ref (ad 21), .ref (ad 22), .ref (ad 23), .ref (ad 24), .ref (ad 25), .ref (ad 26), .ref (ad 27), .int mst14, .int sus15, .ref (ad 28), .ref (ad 29), .ref (ad 30), .ref (ad 31), .int cut16]) := by rw [ec43, va_up_ne _ _ (by omega)]; exact hs1
  have hs45 : ct42 26 = .inl (g.2 0, 16, .inl (upd f38 (Int32.toNatClampNeg 0) ln)) := by rw [ec43]; exact va_up_self _ _ _
  refine lv_iconst (v := 0) hx hb dX9_findsOne_12 (by decide) ?_
  refine lv_istore (lv' := [(5, .int 0), (4, .int 1), (3, .int tk0), (0, .ref (ad 0)), (1, .int ln), (2, .int tk0)]) hx hb dX9_findsOne_13 hl (by decide) rfl (fun ls hl => ?_)
  have loop15 : ∀ (n15 : Nat) (v5_15 : Int32) (v4_15 : Int32) (v3_15 : Int32) (ct46 : Nat → va_E) (H : Heap) (locs : List Loc) (ls : Array Slot), ((8 - v5_15.toInt : Int).toNat < n15) → (0 ≤ v3_15.toInt ∧ v3_15.toInt ≤ 65535) → (1 ≤ v4_15.toInt ∧ v4_15.toInt ≤ 8) → (0 ≤ v5_15.toInt ∧ v5_15.toInt ≤ 8) → (BT (zar (ct 20)) (zar (ct 23)) (zar (ct 24)) (zar (ct46 25)) (zar (ct46 26)) me.toInt tk0 v3_15 ln.toInt.toNat v4_15.toInt v5_15.toInt 0) → (ct46 0 = ct 0) → (ct46 5 = ct 5) → (ct46 10 = ct 10) → (ct46 20 = ct 20) → (ct46 23 = ct 23) → (ct46 24 = ct 24) → (IR g ad me ct46) → zP g (zw 32 ad ct46) H → va_D A (zw 32 ad ct46) → va_S A s.heap H locs → lv_has ls 7 [(5, .int v5_15), (4, .int v4_15), (3, .int v3_15), (0, .ref (ad 0)), (1, .int ln), (2, .int tk0)] → W p l e (headSpec (zW yX9_findsOne cX9_findsOne 7 (some .boolean)) ({ frames := 1, cells := 0, slots := 0, locals := 26 })).room s m ([.ref (ad 0), .int ln, .int tk0] : List Value).toArray below meth c H locs 0 0 (MQ below (va_Qi (fun (r : Int32) (u : Int32) => (r = 1 ∧ (u = 1)) ∨ (r = 0 ∧ (u = 0))) (fun (u : Int32) t => ∃ ct2 : Nat → va_E, zP g (zw 32 ad ct2) t.heap ∧ va_D A (zw 32 ad ct2) ∧ IR g ad me ct2 ∧ (u = 1 → MI (zar (ct 20)) (zar (ct2 23)) (zar (ct2 24)) me.toInt tk0 ∧ DM (zar (ct 23)) (zar (ct2 23)) ln.toInt.toNat) ∧ (u = 0 → NM (zar (ct 20)) (zar (ct 23)) me.toInt tk0 ln.toInt.toNat) ∧ (ct2 0 = ct 0) ∧ (ct2 5 = ct 5) ∧ (ct2 10 = ct 10) ∧ (ct2 20 = ct 20)) A) ([.ref (ad 0), .int ln, .int tk0] : List Value).toArray s 0 0 A) (F0 m 15 ls []) := by
    intro n15
    induction n15 with
    | zero =>
      intro v5_15 v4_15 v3_15 ct46 H locs ls hn15 b3_15 b4_15 b5_15 j0_15 hc0 hc5 hc10 hc20 hc23 hc24 hI hP hD hS hl
      exact absurd hn15 (Nat.not_lt_zero _)
    | succ n15 ih15 =>
      intro v5_15 v4_15 v3_15 ct46 H locs ls hn15 b3_15 b4_15 b5_15 j0_15 hc0 hc5 hc10 hc20 hc23 hc24 hI hP hD hS hl
      refine lv_iload hx hb dX9_findsOne_15 (lv_at hl 0 rfl) ?_
      refine lv_iload hx hb dX9_findsOne_17 (lv_at hl 1 rfl) ?_
      refine lv_icmp_ge (tgt := 134) hx hb dX9_findsOne_19 (by decide) (fun c47 => ?_) (fun c47 => ?_)
      · skip
        have c47 : v4_15.toInt ≤ v5_15.toInt := (z_le rfl rfl).mp c47
        refine lv_iconst (v := 0) hx hb dX9_findsOne_134 (by decide) ?_
        have q48 : (0 : Int32).toInt = 0 := by decide
        exact W.zret (v := 0) hx hb hr rfl (fun t ht hW => ⟨⟨0, 0, rfl, by first | exact Or.inl ⟨rfl, rfl⟩ | exact Or.inr ⟨rfl, rfl⟩, ct46, by rw [ht]; exact hP, hD, hI, (fun q => absurd q (by decide)), (fun _ => BT_fail j0_15 hmi (by omega) (by omega)), (by first | assumption | omega), (by first | assumption | omega), (by first | assumption | omega), (by first | assumption | omega)⟩, hS.F ht⟩) hS.2.2 dX9_findsOne_135
      · skip
        have c47 : ¬ (v4_15.toInt ≤ v5_15.toInt) := fun q => c47 ((z_le rfl rfl).mpr q)
        refine lv_iconst (v := 0) hx hb dX9_findsOne_22 (by decide) ?_
        refine lv_istore (lv' := [(6, .int 0), (5, .int v5_15), (4, .int v4_15), (3, .int v3_15), (0, .ref (ad 0)), (1, .int ln), (2, .int tk0)]) hx hb dX9_findsOne_23 hl (by decide) rfl (fun ls hl => ?_)
        obtain ⟨bks50, lks51, gos52, shn53, tpd54, pl055, ln056, flt57, opn58, cmy59, wtg60, nm061, mst62, sus63, cut64, h65, h66, h67, h68, h69, h70, h71, h72, h73, h74, h75, h76, h77, h78, h79, h80, h81, h82, h83, h84, hs49⟩ := a9_0 hI.1
        have loop25 : ∀ (n25 : Nat) (v6_25 : Int32) (v4_25 : Int32) (v3_25 : Int32) (ct85 : Nat → va_E) (H : Heap) (locs : List Loc) (ls : Array Slot), ((16 - v6_25.toInt : Int).toNat < n25) → (0 ≤ v3_25.toInt ∧ v3_25.toInt ≤ 65535) → (1 ≤ v4_25.toInt ∧ v4_25.toInt ≤ 8) → (0 ≤ v6_25.toInt ∧ v6_25.toInt ≤ 16) → (BT (zar (ct 20)) (zar (ct 23)) (zar (ct 24)) (zar (ct85 25)) (zar (ct85 26)) me.toInt tk0 v3_25 ln.toInt.toNat v4_25.toInt v5_15.toInt v6_25.toInt) → (v5_15.toInt < v4_25.toInt) → (ct85 0 = ct 0) → (ct85 5 = ct 5) → (ct85 10 = ct 10) → (ct85 20 = ct 20) → (ct85 23 = ct 23) → (ct85 24 = ct 24) → (IR g ad me ct85) → zP g (zw 32 ad ct85) H → va_D A (zw 32 ad ct85) → va_S A s.heap H locs → lv_has ls 7 [(6, .int v6_25), (5, .int v5_15), (4, .int v4_25), (3, .int v3_25), (0, .ref (ad 0)), (1, .int ln), (2, .int tk0)] → W p l e (headSpec (zW yX9_findsOne cX9_findsOne 7 (some .boolean)) ({ frames := 1, cells := 0, slots := 0, locals := 26 })).room s m ([.ref (ad 0), .int ln, .int tk0] : List Value).toArray below meth c H locs 0 0 (MQ below (va_Qi (fun (r : Int32) (u : Int32) => (r = 1 ∧ (u = 1)) ∨ (r = 0 ∧ (u = 0))) (fun (u : Int32) t => ∃ ct2 : Nat → va_E, zP g (zw 32 ad ct2) t.heap ∧ va_D A (zw 32 ad ct2) ∧ IR g ad me ct2 ∧ (u = 1 → MI (zar (ct 20)) (zar (ct2 23)) (zar (ct2 24)) me.toInt tk0 ∧ DM (zar (ct 23)) (zar (ct2 23)) ln.toInt.toNat) ∧ (u = 0 → NM (zar (ct 20)) (zar (ct 23)) me.toInt tk0 ln.toInt.toNat) ∧ (ct2 0 = ct 0) ∧ (ct2 5 = ct 5) ∧ (ct2 10 = ct 10) ∧ (ct2 20 = ct 20)) A) ([.ref (ad 0), .int ln, .int tk0] : List Value).toArray s 0 0 A) (F0 m 25 ls []) := by
          intro n25
          induction n25 with
          | zero =>
            intro v6_25 v4_25 v3_25 ct85 H locs ls hn25 b3_25 b4_25 b6_25 j0_25 j1_25 hc0 hc5 hc10 hc20 hc23 hc24 hI hP hD hS hl
            exact absurd hn25 (Nat.not_lt_zero _)
          | succ n25 ih25 =>
            intro v6_25 v4_25 v3_25 ct85 H locs ls hn25 b3_25 b4_25 b6_25 j0_25 j1_25 hc0 hc5 hc10 hc20 hc23 hc24 hI hP hD hS hl
            have hble := BT_le j0_25
            refine lv_iload hx hb dX9_findsOne_25 (lv_at hl 0 rfl) ?_
            refine lv_aload_n hx hb dX9_findsOne_27 rfl (lv_at hl 4 rfl) ?_
            obtain ⟨bks87, lks88, gos89, shn90, tpd91, pl092, ln093, flt94, opn95, cmy96, wtg97, nm098, mst99, sus100, cut101, h102, h103, h104, h105, h106, h107, h108, h109, h110, h111, h112, h113, h114, h115, h116, h117, h118, h119, h120, h121, hs86⟩ := a9_0 hI.1
            refine va_get (D := g.1) (ci := 9) (v := .int me) (C := RX9) (T := TX9) (N := 47) hx hb hg inG9 hown hK hP 0 (zw_at (by omega) hs86) rfl 0 (by decide) (hg _ mm_958) (fun _ h9 => h9) rfl dX9_findsOne_28 ?_
            refine lv_icmp_ge (tgt := 128) hx hb dX9_findsOne_31 (by decide) (fun c122 => ?_) (fun c122 => ?_)
            · skip
              have c122 : me.toInt ≤ v6_25.toInt := (z_le rfl rfl).mp c122
              obtain ⟨x123, ex123⟩ : ∃ y : Int32, y = v5_15 + 1 := ⟨_, rfl⟩
              have tx123 : x123.toInt = v5_15.toInt + 1 := by rw [ex123]; exact z_add rfl (by decide : (1 : Int32).toInt = 1) (by omega) (by omega)
              refine lv_iinc (v := x123) (lv' := [(5, .int x123), (6, .int v6_25), (4, .int v4_25), (3, .int v3_25), (0, .ref (ad 0)), (1, .int ln), (2, .int tk0)]) hx hb dX9_findsOne_128 hl (k := 1) rfl (by rw [ex123]; rfl) (by decide) rfl (fun ls hl => ?_)
              have hbt3 := BT_nextk j0_25 (by omega) (by omega)
              rw [← tx123] at hbt3
              refine lv_goto (tgt := 15) hx hb dX9_findsOne_131 (by decide) ?_
              exact ih15 x123 v4_25 v3_25 ct85 _ _ ls (by omega) (by first | assumption | omega | decide) (by first | assumption | omega | decide) (by first | assumption | omega | decide) (by first | assumption | omega | decide) (by first | assumption | omega | decide) (by first | assumption | omega | decide) (by first | assumption | omega | decide) (by first | assumption | omega | decide) (by first | assumption | omega | decide) (by first | assumption | omega | decide) hI hP hD hS (lv_sub hl [0, 2, 3, 4, 5, 6] rfl)
            · skip
              have c122 : ¬ (me.toInt ≤ v6_25.toInt) := fun q => c122 ((z_le rfl rfl).mpr q)
              refine lv_aload_n hx hb dX9_findsOne_34 rfl (lv_at hl 4 rfl) ?_
              refine va_get (D := g.1) (ci := 9) (v := .ref (ad 20)) (C := RX9) (T := TX9) (N := 47) hx hb hg inG9 hown hK hP 0 (zw_at (by omega) hs86) rfl 32 (by decide) (hg _ mm_990) (fun _ h9 => h9) rfl dX9_findsOne_35 ?_
              refine lv_aload_n hx hb dX9_findsOne_38 rfl (lv_at hl 4 rfl) ?_
              refine va_get (D := g.1) (ci := 9) (v := .ref (ad 26)) (C := RX9) (T := TX9) (N := 47) hx hb hg inG9 hown hK hP 0 (zw_at (by omega) hs86) rfl 38 (by decide) (hg _ mm_996) (fun _ h9 => h9) rfl dX9_findsOne_39 ?_
              refine lv_iload hx hb dX9_findsOne_42 (lv_at hl 1 rfl) ?_
              obtain ⟨f125, hp126, hs124⟩ := a9_26 hI.1
              refine va_iald hx hb hK hP 26 0 (zw_at (by omega) hs124) rfl (z_in rfl (by omega) (by omega)) dX9_findsOne_44 ?_
              refine lv_topi (fun y127 ey127 => ?_)
              have hy127 := hp126 _ (z_clt (x := v5_15) rfl (by omega) (by omega))
              rw [← ey127] at hy127
              have hy127 : 0 ≤ y127.toInt ∧ y127.toInt ≤ 7 := hy127
              obtain ⟨f129, hp130, hs128⟩ := a9_20 hI.1
              refine va_iald hx hb hK hP 20 0 (zw_at (by omega) hs128) rfl (z_in rfl (by omega) (by omega)) dX9_findsOne_45 ?_
              refine lv_topi (fun y131 ey131 => ?_)
              have hy131 := hp130 _ (z_clt (x := y127) rfl (by omega) (by omega))
              rw [← ey131] at hy131
              have hy131 : 0 ≤ y131.toInt ∧ y131.toInt ≤ 65535 := hy131
              refine lv_iload_n hx hb dX9_findsOne_46 rfl (lv_at hl 3 rfl) ?_
              refine lv_iconst (v := (-1)) hx hb dX9_findsOne_47 (by decide) ?_
              refine lv_ixor hx hb dX9_findsOne_48 ?_
              refine lv_topi (fun x132 ex132 => ?_)
              refine lv_iand hx hb dX9_findsOne_49 ?_
              refine lv_topi (fun x133 ex133 => ?_)
              have tx133 := z_andl (x := y131) (y := x132) rfl (by omega)
              rw [← ex133] at tx133
              refine lv_iload hx hb dX9_findsOne_50 (lv_at hl 0 rfl) ?_
              refine lv_ishr hx hb dX9_findsOne_52 ?_
              refine lv_topi (fun x134 ex134 => ?_)
              have tx134 := z_shr (x := x133) rfl (by omega) v6_25
              rw [← ex134] at tx134
              refine lv_iconst (v := 1) hx hb dX9_findsOne_53 (by decide) ?_
              refine lv_iand hx hb dX9_findsOne_54 ?_
              refine lv_topi (fun x135 ex135 => ?_)
              have tx135 := z_andr (x := x134) (y := 1) (by decide : (1 : Int32).toInt = 1) (by omega)
              rw [← ex135] at tx135
              have hgb := zb_get (x := x133) (y := v6_25) (p := v6_25.toInt.toNat) (by omega) (by omega) (by omega)
              rw [← ex134, ← ex135] at hgb
              have ew2 : zar (ct85 26) v5_15.toInt.toNat = y127 := by rw [zar_of hs124, ey127, z_cl (x := v5_15) (k := v5_15.toInt.toNat) (by omega)]
              have ef2 : zar (ct 20) (zar (ct85 26) v5_15.toInt.toNat).toInt.toNat = y131 := by rw [ew2, zar_of (hc20.symm.trans hs128), ey131, z_cl (x := y127) (k := y127.toInt.toNat) (by omega)]
              have hab : zb x133 v6_25.toInt.toNat ↔ zb (zar (ct 20) (zar (ct85 26) v5_15.toInt.toNat).toInt.toNat) v6_25.toInt.toNat ∧ ¬ zb v3_25 v6_25.toInt.toNat := by rw [ef2, ex133, zb_and, ex132, zb_not (by omega)]
              refine lv_if_ne (tgt := 61) hx hb dX9_findsOne_55 (by decide) (fun c136 => ?_) (fun c136 => ?_)
              · skip
                have c136 : ¬ (x135.toInt = 0) := fun q => c136 ((z_eq rfl (by decide : (0 : Int32).toInt = 0)).mpr q)
                have hb1 := hab.mp (by
                  rcases hgb with ⟨g1, g2⟩ | ⟨g1, g2⟩
                  · exact g2
                  · omega)
                refine lv_iload_n hx hb dX9_findsOne_61 rfl (lv_at hl 3 rfl) ?_
                refine lv_iconst (v := 1) hx hb dX9_findsOne_62 (by decide) ?_
                refine lv_iload hx hb dX9_findsOne_63 (lv_at hl 0 rfl) ?_
                refine lv_ishl hx hb dX9_findsOne_65 ?_
                refine lv_topi (fun x137 ex137 => ?_)
                have tx137 := z_shl1 (y := v6_25) rfl (by omega) (k := 15) (by decide) (by omega)
                rw [← ex137] at tx137
                refine lv_ior hx hb dX9_findsOne_66 ?_
                refine lv_topi (fun x138 ex138 => ?_)
                have tx138 := z_or (x := v3_25) (y := x137) rfl rfl (k := 16) (N := 65536) (by decide) (by decide) (by omega) (by omega) (by omega) (by omega)
                rw [← ex138] at tx138
                refine lv_istore_n (lv' := [(3, .int x138), (6, .int v6_25), (5, .int v5_15), (4, .int v4_25), (0, .ref (ad 0)), (1, .int ln), (2, .int tk0)]) hx hb dX9_findsOne_67 rfl hl (by decide) rfl (fun ls hl => ?_)
                have hs2 : ∀ j, zb x138 j ↔ zb v3_25 j ∨ j = v6_25.toInt.toNat := fun j => by rw [ex138, zb_or, ex137, zb_shl (y := v6_25) (p := v6_25.toInt.toNat) (by omega) (by omega)]
                refine lv_aload_n hx hb dX9_findsOne_68 rfl (lv_at hl 4 rfl) ?_
                refine va_get (D := g.1) (ci := 9) (v := .ref (ad 25)) (C := RX9) (T := TX9) (N := 47) hx hb hg inG9 hown hK hP 0 (zw_at (by omega) hs86) rfl 37 (by decide) (hg _ mm_995) (fun _ h9 => h9) rfl dX9_findsOne_69 ?_
                refine lv_iload hx hb dX9_findsOne_72 (lv_at hl 1 rfl) ?_
                refine lv_aload_n hx hb dX9_findsOne_74 rfl (lv_at hl 4 rfl) ?_
                refine va_get (D := g.1) (ci := 9) (v := .ref (ad 26)) (C := RX9) (T := TX9) (N := 47) hx hb hg inG9 hown hK hP 0 (zw_at (by omega) hs86) rfl 38 (by decide) (hg _ mm_996) (fun _ h9 => h9) rfl dX9_findsOne_75 ?_
                refine lv_iload hx hb dX9_findsOne_78 (lv_at hl 2 rfl) ?_
                refine va_iald hx hb hK hP 26 0 (zw_at (by omega) hs124) rfl (z_in rfl (by omega) (by omega)) dX9_findsOne_80 ?_
                refine lv_topi (fun y139 ey139 => ?_)
                obtain rfl : y127 = y139 := ey127.trans ey139.symm
                obtain ⟨f141, hp142, hs140⟩ := a9_25 hI.1
                refine va_iast hx hb hK hP hD hS 25 0 (zw_at (by omega) hs140) rfl (z_in rfl (by omega) (by omega)) dX9_findsOne_81 (fun H locs hP hD hS => ?_)
                have hp144 : ∀ j : Nat, j < 16 → (fun x : Int32 => 0 ≤ x.toInt ∧ x.toInt ≤ 7) ((upd f141 (Int32.toNatClampNeg v6_25) y127) j) := fun j hj => by
                  unfold upd
                  by_cases q : j = Int32.toNatClampNeg v6_25
                  · rw [if_pos q]; exact (show 0 ≤ (y127 : Int32).toInt ∧ (y127 : Int32).toInt ≤ 7 from (by first | omega | decide))
                  · rw [if_neg q]; exact hp142 j hj
                have hP : zP g ((zw 32 ad ct85).set 25 (ad 25, .inl (g.2 0, 16, .inl (upd f141 (Int32.toNatClampNeg v6_25) y127)))) H := hP
                have hD : va_D A ((zw 32 ad ct85).set 25 (ad 25, .inl (g.2 0, 16, .inl (upd f141 (Int32.toNatClampNeg v6_25) y127)))) := hD
                rw [zw_set (by omega)] at hP hD
                obtain ⟨ct145, ec146⟩ : ∃ z : Nat → va_E, z = va_up ct85 25 (.inl (g.2 0, 16, .inl (upd f141 (Int32.toNatClampNeg v6_25) y127))) := ⟨_, rfl⟩
                rw [← ec146] at hP hD
                have hI : IR g ad me ct145 := by rw [ec146]; exact upR hI (by decide) (i9_25 ⟨_, hp144, rfl⟩)
                have hc0 : ct145 0 = ct 0 := by rw [ec146]; exact (va_up_ne _ _ (by omega)).trans hc0
                have hc5 : ct145 5 = ct 5 := by rw [ec146]; exact (va_up_ne _ _ (by omega)).trans hc5
                have hc10 : ct145 10 = ct 10 := by rw [ec146]; exact (va_up_ne _ _ (by omega)).trans hc10
                have hc20 : ct145 20 = ct 20 := by rw [ec146]; exact (va_up_ne _ _ (by omega)).trans hc20
                have hc23 : ct145 23 = ct 23 := by rw [ec146]; exact (va_up_ne _ _ (by omega)).trans hc23
                have hc24 : ct145 24 = ct 24 := by rw [ec146]; exact (va_up_ne _ _ (by omega)).trans hc24
                have hs147 : ct145 0 = .inr (9, [.int me, .ref (ad 1), .ref (ad 2), .ref (ad 3), .ref (ad 4), .int bks87, .int lks88, .int gos89, .int shn90, .ref (ad 5), .ref (ad 6), .ref (ad 7), .ref (ad 8), .ref (ad 9), .ref (ad 10), .ref (ad 11), .int tpd91, .int pl092, .int ln093, .int flt94, .int opn95, .int cmy96, .int wtg97, .int nm098, .ref (ad 12), .ref (ad 13), .ref (ad 14), .ref (ad 15), .ref (ad 16), .ref (ad 17), .ref (ad 18), .ref (ad 19), .ref (ad 20), .ref (ad 21), .ref (ad 22), .ref (ad 23), .ref (ad 24), .ref (ad 25), .ref (ad 26), .ref (ad 27), .int mst99, .int sus100, .ref (ad 28), .ref (ad 29), .ref (ad 30), .ref (ad 31), .int cut101]) := by rw [ec146, va_up_ne _ _ (by omega)]; exact hs86
                have hs148 : ct145 26 = .inl (g.2 0, 16, .inl f125) := by rw [ec146, va_up_ne _ _ (by omega)]; exact hs124
                have hs149 : ct145 20 = .inl (g.2 0, 8, .inl f129) := by rw [ec146, va_up_ne _ _ (by omega)]; exact hs128
                have hs150 : ct145 25 = .inl (g.2 0, 16, .inl (upd f141 (Int32.toNatClampNeg v6_25) y127)) := by rw [ec146]; exact va_up_self _ _ _
                refine lv_aload_n hx hb dX9_findsOne_82 rfl (lv_at hl 4 rfl) ?_
                refine va_get (D := g.1) (ci := 9) (v := .ref (ad 24)) (C := RX9) (T := TX9) (N := 47) hx hb hg inG9 hown hK hP 0 (zw_at (by omega) hs147) rfl 36 (by decide) (hg _ mm_994) (fun _ h9 => h9) rfl dX9_findsOne_83 ?_
                refine lv_iload hx hb dX9_findsOne_86 (lv_at hl 1 rfl) ?_
                obtain ⟨f152, hp153, hs151⟩ := a9_24 hI.1
                refine va_iald hx hb hK hP 24 0 (zw_at (by omega) hs151) rfl (z_in rfl (by omega) (by omega)) dX9_findsOne_88 ?_
                refine lv_topi (fun y154 ey154 => ?_)
                have hy154 := hp153 _ (z_clt (x := v6_25) rfl (by omega) (by omega))
                rw [← ey154] at hy154
                have hy154 : (-1) ≤ y154.toInt ∧ y154.toInt ≤ 7 := hy154
                have eg2 : zar (ct 24) v6_25.toInt.toNat = y154 := by rw [zar_of (hc24.symm.trans hs151), ey154, z_cl (x := v6_25) (k := v6_25.toInt.toNat) (by omega)]
                refine lv_iconst (v := (-1)) hx hb dX9_findsOne_89 (by decide) ?_
                refine lv_icmp_ne (tgt := 102) hx hb dX9_findsOne_90 (by decide) (fun c155 => ?_) (fun c155 => ?_)
                · skip
                  have c155 : ¬ (y154.toInt = (-1)) := fun q => c155 ((z_eq rfl (by decide : ((-1) : Int32).toInt = (-1))).mpr q)
                  refine lv_aload_n hx hb dX9_findsOne_102 rfl (lv_at hl 4 rfl) ?_
                  refine va_get (D := g.1) (ci := 9) (v := .ref (ad 26)) (C := RX9) (T := TX9) (N := 47) hx hb hg inG9 hown hK hP 0 (zw_at (by omega) hs147) rfl 38 (by decide) (hg _ mm_996) (fun _ h9 => h9) rfl dX9_findsOne_103 ?_
                  refine lv_iload hx hb dX9_findsOne_106 (lv_at hl 3 rfl) ?_
                  refine lv_aload_n hx hb dX9_findsOne_108 rfl (lv_at hl 4 rfl) ?_
                  refine va_get (D := g.1) (ci := 9) (v := .ref (ad 24)) (C := RX9) (T := TX9) (N := 47) hx hb hg inG9 hown hK hP 0 (zw_at (by omega) hs147) rfl 36 (by decide) (hg _ mm_994) (fun _ h9 => h9) rfl dX9_findsOne_109 ?_
                  refine lv_iload hx hb dX9_findsOne_112 (lv_at hl 1 rfl) ?_
                  refine va_iald hx hb hK hP 24 0 (zw_at (by omega) hs151) rfl (z_in rfl (by omega) (by omega)) dX9_findsOne_114 ?_
                  refine lv_topi (fun y156 ey156 => ?_)
                  obtain rfl : y154 = y156 := ey154.trans ey156.symm
                  refine va_iast hx hb hK hP hD hS 26 0 (zw_at (by omega) hs148) rfl (z_in rfl (by omega) (by omega)) dX9_findsOne_115 (fun H locs hP hD hS => ?_)
                  have hp158 : ∀ j : Nat, j < 16 → (fun x : Int32 => 0 ≤ x.toInt ∧ x.toInt ≤ 7) ((upd f125 (Int32.toNatClampNeg v4_25) y154) j) := fun j hj => by
                    unfold upd
                    by_cases q : j = Int32.toNatClampNeg v4_25
                    · rw [if_pos q]; exact (show 0 ≤ (y154 : Int32).toInt ∧ (y154 : Int32).toInt ≤ 7 from (by first | omega | decide))
                    · rw [if_neg q]; exact hp126 j hj
                  have hP : zP g ((zw 32 ad ct145).set 26 (ad 26, .inl (g.2 0, 16, .inl (upd f125 (Int32.toNatClampNeg v4_25) y154)))) H := hP
                  have hD : va_D A ((zw 32 ad ct145).set 26 (ad 26, .inl (g.2 0, 16, .inl (upd f125 (Int32.toNatClampNeg v4_25) y154)))) := hD
                  rw [zw_set (by omega)] at hP hD
                  obtain ⟨ct159, ec160⟩ : ∃ z : Nat → va_E, z = va_up ct145 26 (.inl (g.2 0, 16, .inl (upd f125 (Int32.toNatClampNeg v4_25) y154))) := ⟨_, rfl⟩
                  rw [← ec160] at hP hD
                  have hI : IR g ad me ct159 := by rw [ec160]; exact upR hI (by decide) (i9_26 ⟨_, hp158, rfl⟩)
                  have hc0 : ct159 0 = ct 0 := by rw [ec160]; exact (va_up_ne _ _ (by omega)).trans hc0
                  have hc5 : ct159 5 = ct 5 := by rw [ec160]; exact (va_up_ne _ _ (by omega)).trans hc5
                  have hc10 : ct159 10 = ct 10 := by rw [ec160]; exact (va_up_ne _ _ (by omega)).trans hc10
                  have hc20 : ct159 20 = ct 20 := by rw [ec160]; exact (va_up_ne _ _ (by omega)).trans hc20
                  have hc23 : ct159 23 = ct 23 := by rw [ec160]; exact (va_up_ne _ _ (by omega)).trans hc23
                  have hc24 : ct159 24 = ct 24 := by rw [ec160]; exact (va_up_ne _ _ (by omega)).trans hc24
                  have hs161 : ct159 0 = .inr (9, [.int me, .ref (ad 1), .ref (ad 2), .ref (ad 3), .ref (ad 4), .int bks87, .int lks88, .int gos89, .int shn90, .ref (ad 5), .ref (ad 6), .ref (ad 7), .ref (ad 8), .ref (ad 9), .ref (ad 10), .ref (ad 11), .int tpd91, .int pl092, .int ln093, .int flt94, .int opn95, .int cmy96, .int wtg97, .int nm098, .ref (ad 12), .ref (ad 13), .ref (ad 14), .ref (ad 15), .ref (ad 16), .ref (ad 17), .ref (ad 18), .ref (ad 19), .ref (ad 20), .ref (ad 21), .ref (ad 22), .ref (ad 23), .ref (ad 24), .ref (ad 25), .ref (ad 26), .ref (ad 27), .int mst99, .int sus100, .ref (ad 28), .ref (ad 29), .ref (ad 30), .ref (ad 31), .int cut101]) := by rw [ec160, va_up_ne _ _ (by omega)]; exact hs147
                  have hs162 : ct159 20 = .inl (g.2 0, 8, .inl f129) := by rw [ec160, va_up_ne _ _ (by omega)]; exact hs149
                  have hs163 : ct159 25 = .inl (g.2 0, 16, .inl (upd f141 (Int32.toNatClampNeg v6_25) y127)) := by rw [ec160, va_up_ne _ _ (by omega)]; exact hs150
                  have hs164 : ct159 24 = .inl (g.2 0, 16, .inl f152) := by rw [ec160, va_up_ne _ _ (by omega)]; exact hs151
                  have hs165 : ct159 26 = .inl (g.2 0, 16, .inl (upd f125 (Int32.toNatClampNeg v4_25) y154)) := by rw [ec160]; exact va_up_self _ _ _
                  have hbt2 := BT_add (p := v6_25.toInt.toNat) (xk := y127) (xg := y154) (s2 := x138) (im := Int32.toNatClampNeg v4_25) (ip := Int32.toNatClampNeg v6_25) j0_25 hmi (by omega) (by omega) (by omega) (by omega) (by omega) hb1.1 hb1.2 (by rw [ew2]) (by rw [eg2]) (by omega) hs2 (z_clI (by omega)) (z_cl (by omega))
                  rw [zar_of hs140, zar_of hs124, ← zar_of hs163, ← zar_of hs165] at hbt2
                  have hbl2 := BT_le hbt2
                  refine lv_iload hx hb dX9_findsOne_116 (lv_at hl 3 rfl) ?_
                  refine lv_iconst (v := 1) hx hb dX9_findsOne_118 (by decide) ?_
                  refine lv_iadd hx hb dX9_findsOne_119 ?_
                  refine lv_topi (fun x166 ex166 => ?_)
                  have tx166 : x166.toInt = v4_25.toInt + 1 := by rw [ex166]; exact z_add rfl (by decide : (1 : Int32).toInt = 1) (by omega) (by omega)
                  refine lv_istore (lv' := [(4, .int x166), (3, .int x138), (6, .int v6_25), (5, .int v5_15), (0, .ref (ad 0)), (1, .int ln), (2, .int tk0)]) hx hb dX9_findsOne_120 hl (by decide) rfl (fun ls hl => ?_)
                  rw [← tx166] at hbt2
                  obtain ⟨x167, ex167⟩ : ∃ y : Int32, y = v6_25 + 1 := ⟨_, rfl⟩
                  have tx167 : x167.toInt = v6_25.toInt + 1 := by rw [ex167]; exact z_add rfl (by decide : (1 : Int32).toInt = 1) (by omega) (by omega)
                  refine lv_iinc (v := x167) (lv' := [(6, .int x167), (4, .int x166), (3, .int x138), (5, .int v5_15), (0, .ref (ad 0)), (1, .int ln), (2, .int tk0)]) hx hb dX9_findsOne_122 hl (k := 2) rfl (by rw [ex167]; rfl) (by decide) rfl (fun ls hl => ?_)
                  rw [← tx167] at hbt2
                  refine lv_goto (tgt := 25) hx hb dX9_findsOne_125 (by decide) ?_
                  exact ih25 x167 x166 x138 ct159 _ _ ls (by omega) (by first | assumption | omega | decide) (by first | assumption | omega | decide) (by first | assumption | omega | decide) (by first | assumption | omega | decide) (by first | assumption | omega | decide) (by first | assumption | omega | decide) (by first | assumption | omega | decide) (by first | assumption | omega | decide) (by first | assumption | omega | decide) (by first | assumption | omega | decide) (by first | assumption | omega | decide) hI hP hD hS (lv_sub hl [0, 3, 1, 2, 4, 5, 6] rfl)
                · skip
                  have c155 : y154.toInt = (-1) := (z_eq rfl (by decide : ((-1) : Int32).toInt = (-1))).mp c155
                  have hcb := BT_found (p := v6_25.toInt.toNat) (xk := y127) (ip := Int32.toNatClampNeg v6_25) j0_25 hmi (by omega) (by omega) (by omega) (by omega) (by omega) hb1.1 hb1.2 (by rw [ew2]) (by rw [eg2]; omega) (z_cl (by omega))
                  rw [zar_of hs140, zar_of hs124] at hcb
                  have hcb2 : CBL (zar (ct145 20)) (zar (ct145 23)) (zar (ct145 23)) (zar (ct145 24)) (zar (ct145 25)) (zar (ct145 26)) me.toInt tk0 ln.toInt.toNat v4_25.toInt.toNat 1 v6_25.toInt := by
                    rw [hc20, hc23, hc24, zar_of hs150, zar_of hs148]
                    exact hcb
                  have k20 := hc20
                  have k23 := hc23
                  refine lv_aload_n hx hb dX9_findsOne_93 rfl (lv_at hl 4 rfl) ?_
                  refine lv_iload_n hx hb dX9_findsOne_94 rfl (lv_at hl 5 rfl) ?_
                  refine lv_iload hx hb dX9_findsOne_95 (lv_at hl 1 rfl) ?_
                  have hFc := zw_free hD hS hA
                  refine va_callv (va_runV (As := [.int ln, .int v6_25]) (rest := []) ⟨hx, hb, hml, hown, hg⟩ (k_X9_changesBack l g _ ad me ct145 ln v6_25 tk0 v4_25.toInt.toNat (by first | omega | decide) (by first | omega | decide) hI (hcb2)) (cwV 2 hg (z_gV mm_1365 mm_1367 mm_91 mm_117 mm_1368) rfl rfl rfl (by decide +kernel) ⟨Nat.le_of_ble_eq_true rfl, Nat.le_of_ble_eq_true rfl⟩) ⟨(zA.pre [.ref (ad 0), .int ln, .int v6_25] hP hK hD hN).1, va_recv hK hP (ci := 9) (q0 := 0) rfl (zw_at (by omega) hs147), (zA.pre [.ref (ad 0), .int ln, .int v6_25] hP hK hD hN).2⟩ rfl rfl hl.1 rfl (lv_room (Nat.le_of_ble_eq_true rfl)) dX9_findsOne_97 ⟨Nat.le_of_ble_eq_true rfl, Nat.le_of_ble_eq_true rfl⟩) hS (fun q _ h => hFc q h) hFc (fun _ t H1 locs ht hvm hr168 hB hz1 hk1 hS => ?_)
                  obtain ⟨ct169, hP1, hD1, hI, hk170, hk171, hk172, hk173, hk174, hk175⟩ := hB
                  rw [ht] at hP1
                  have hD := hD1.weaken (fun _ _ _ h => hFc _ h)
                  generalize H1 = H at hP1 hS ⊢
                  have hP := hP1
                  refine W.widen (k := 0) (n := 0) (Nat.le_refl _) (Nat.le_refl _) ?_
                  have hc0 : ct169 0 = ct 0 := hk171.trans hc0
                  have hc5 : ct169 5 = ct 5 := hk172.trans hc5
                  have hc10 : ct169 10 = ct 10 := hk173.trans hc10
                  have hc20 : ct169 20 = ct 20 := hk174.trans hc20
                  have hs176 : ct169 0 = .inr (9, [.int me, .ref (ad 1), .ref (ad 2), .ref (ad 3), .ref (ad 4), .int bks87, .int lks88, .int gos89, .int shn90, .ref (ad 5), .ref (ad 6), .ref (ad 7), .ref (ad 8), .ref (ad 9), .ref (ad 10), .ref (ad 11), .int tpd91, .int pl092, .int ln093, .int flt94, .int opn95, .int cmy96, .int wtg97, .int nm098, .ref (ad 12), .ref (ad 13), .ref (ad 14), .ref (ad 15), .ref (ad 16), .ref (ad 17), .ref (ad 18), .ref (ad 19), .ref (ad 20), .ref (ad 21), .ref (ad 22), .ref (ad 23), .ref (ad 24), .ref (ad 25), .ref (ad 26), .ref (ad 27), .int mst99, .int sus100, .ref (ad 28), .ref (ad 29), .ref (ad 30), .ref (ad 31), .int cut101]) := hk171.trans hs147
                  have hs177 : ct169 20 = .inl (g.2 0, 8, .inl f129) := hk174.trans hs149
                  have hs178 : ct169 25 = .inl (g.2 0, 16, .inl (upd f141 (Int32.toNatClampNeg v6_25) y127)) := hk175.trans hs150
                  refine lv_iconst (v := 1) hx hb dX9_findsOne_100 (by decide) ?_
                  have q179 : (1 : Int32).toInt = 1 := by decide
                  exact W.zret (v := 1) hx hb hr rfl (fun t ht hW => ⟨⟨1, 1, rfl, by first | exact Or.inl ⟨rfl, rfl⟩ | exact Or.inr ⟨rfl, rfl⟩, ct169, by rw [ht]; exact hP, hD, hI, (fun _ => by rw [← k20, ← k23]; exact hk170), (fun q => absurd q (by decide)), (by first | assumption | omega), (by first | assumption | omega), (by first | assumption | omega), (by first | assumption | omega)⟩, hS.F ht⟩) hS.2.2 dX9_findsOne_101
              · skip
                have c136 : x135.toInt = 0 := (z_eq rfl (by decide : (0 : Int32).toInt = 0)).mp c136
                have hbt2 := BT_skip j0_25 (p := v6_25.toInt.toNat) (by omega) (fun q => by
                  have q2 := hab.mpr q
                  rcases hgb with ⟨g1, g2⟩ | ⟨g1, g2⟩
                  · omega
                  · exact g2 q2)
                refine lv_goto (tgt := 122) hx hb dX9_findsOne_58 (by decide) ?_
                obtain ⟨x180, ex180⟩ : ∃ y : Int32, y = v6_25 + 1 := ⟨_, rfl⟩
                have tx180 : x180.toInt = v6_25.toInt + 1 := by rw [ex180]; exact z_add rfl (by decide : (1 : Int32).toInt = 1) (by omega) (by omega)
                refine lv_iinc (v := x180) (lv' := [(6, .int x180), (5, .int v5_15), (4, .int v4_25), (3, .int v3_25), (0, .ref (ad 0)), (1, .int ln), (2, .int tk0)]) hx hb dX9_findsOne_122 hl (k := 0) rfl (by rw [ex180]; rfl) (by decide) rfl (fun ls hl => ?_)
                rw [← tx180] at hbt2
                refine lv_goto (tgt := 25) hx hb dX9_findsOne_125 (by decide) ?_
                exact ih25 x180 v4_25 v3_25 ct85 _ _ ls (by omega) (by first | assumption | omega | decide) (by first | assumption | omega | decide) (by first | assumption | omega | decide) (by first | assumption | omega | decide) (by first | assumption | omega | decide) (by first | assumption | omega | decide) (by first | assumption | omega | decide) (by first | assumption | omega | decide) (by first | assumption | omega | decide) (by first | assumption | omega | decide) (by first | assumption | omega | decide) hI hP hD hS (lv_sub hl [0, 1, 2, 3, 4, 5, 6] rfl)
        have hbt1 : BT (zar (ct 20)) (zar (ct 23)) (zar (ct 24)) (zar (ct46 25)) (zar (ct46 26)) me.toInt tk0 v3_15 ln.toInt.toNat v4_15.toInt v5_15.toInt ((0 : Int32)).toInt := j0_15
        exact loop25 ((16 - (0 : Int32).toInt : Int).toNat + 1) (0 : Int32) v4_15 v3_15 ct46 _ _ ls (by omega) (by first | assumption | omega | decide) (by first | assumption | omega | decide) (by first | assumption | omega | decide) (by first | assumption | omega | decide) (by first | assumption | omega | decide) (by first | assumption | omega | decide) (by first | assumption | omega | decide) (by first | assumption | omega | decide) (by first | assumption | omega | decide) (by first | assumption | omega | decide) (by first | assumption | omega | decide) hI hP hD hS (lv_sub hl [0, 1, 2, 3, 4, 5, 6] rfl)
  have hbt := BT_start (F := zar (ct 20)) (H := zar (ct 23)) (G := zar (ct 24)) (A := zar (ct42 25)) (W := f38) (pe := me.toInt) (tk := tk0) (xl := ln) (line := ln.toInt.toNat) (i0 := Int32.toNatClampNeg 0) (by omega) hln (by omega) (by decide)
  rw [← zar_of hs45] at hbt
  have hbt1 : BT (zar (ct 20)) (zar (ct 23)) (zar (ct 24)) (zar (ct42 25)) (zar (ct42 26)) me.toInt tk0 tk0 ln.toInt.toNat ((1 : Int32)).toInt ((0 : Int32)).toInt 0 := hbt
  exact loop15 ((8 - (0 : Int32).toInt : Int).toNat + 1) (0 : Int32) (1 : Int32) tk0 ct42 _ _ ls (by omega) (by first | assumption | omega | decide) (by first | assumption | omega | decide) (by first | assumption | omega | decide) (by first | assumption | omega | decide) (by first | assumption | omega | decide) (by first | assumption | omega | decide) (by first | assumption | omega | decide) (by first | assumption | omega | decide) (by first | assumption | omega | decide) (by first | assumption | omega | decide) hI hP hD hS (lv_sub hl [0, 1, 2, 3, 4, 5] rfl)
