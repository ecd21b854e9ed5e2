set_option maxHeartbeats 4000000 in
set_option maxRecDepth 100000 in
theorem k_X9_lands (l : Launch) (g : zG) (sz : Nat) (ad : Nat → Nat) (me : Int32) (ct : Nat → va_E) (al : Int32) (hl_al : 0 ≤ al.toInt ∧ al.toInt ≤ 1) (hI : IR g ad me ct) (hps : PS (g.2 0) ct 1 0 R0) : Met l yX9_lands (zW yX9_lands cX9_lands 3 none) ({ frames := 1, cells := 0, slots := 0, locals := 20 }) (va_Pc [.ref (ad 0), .int al] (zA g (zw 32 ad ct) sz)) (va_Qv (fun (_ : Unit) => True) (fun _ t => ∃ ct2 : Nat → va_E, zP g (zw 32 ad ct2) t.heap ∧ va_D (va_A (zw 32 ad ct) sz) (zw 32 ad ct2) ∧ IR g ad me ct2 ∧ (zfi 17 (ct2 0) = zfi 17 (ct 0)) ∧ (zfi 18 (ct2 0) = zfi 18 (ct 0)) ∧ (PS (g.2 0) ct2 1 0 (fun fw W => R0 fw W ∧ (al.toInt = 1 → ¬ (kd (fw (W - 1)) = 11 ∨ kd (fw (W - 1)) = 12))))) (va_A (zw 32 ad ct) sz)) 0 0 (va_A (zw 32 ad ct) sz) := by
  refine Met.ofW (cc := cX9_lands) (maxL := 3) (ret := none) (by decide) rfl ?_
  intro p e s m args below meth c s₁ B hml hv
  obtain ⟨rfl, hsz, hP, hK, hD0, hN⟩ := hv
  have hx := B.exec
  have hb := B.bytes
  have hr := B.returns
  have hg := zW.law (atoms_spec (ws := (zW yX9_lands cX9_lands 3 none)) B.pre)
  have hown : s.vm.findClass RX9 = some m.cls := findClass_of_methodNamed B.named
  have hlocks := B.notSynchronized
  have hpe0 := hI.1.1
  subst hsz
  have hD := hD0.self (sz := s.heap.size)
  generalize hAe : va_A (zw 32 ad ct) s.heap.size = A at hD ⊢
  have hA : ∀ q : Nat, s.heap.size ≤ q → A q := fun q h => by rw [← hAe]; exact Or.inr h
  have hS : va_S A s.heap s.heap [] := va_S.rf
  have hl := lv_entry ([.ref (ad 0), .int al]) (n := 3) (Nat.le_of_ble_eq_true rfl)
  rw [lg_entry_eq]
  generalize (lg_sl ([.ref (ad 0), .int al]) ++ List.replicate (3 - (lg_sl ([.ref (ad 0), .int al])).length) Slot.unset).toArray = ls at hl ⊢
  have hl : lv_has ls 3 [(0, .ref (ad 0)), (1, .int al)] := hl
  obtain ⟨bks2, lks3, gos4, shn5, tpd6, pl07, ln08, flt9, opn10, cmy11, wtg12, nm013, mst14, sus15, cut16, h17, h18, h19, h20, h21, h22, h23, h24, h25, h26, h27, h28, h29, h30, h31, h32, h33, h34, h35, h36, hs1⟩ := a9_0 hI.1
  have z17_hs1 : zfi 17 (ct 0) = pl07.toInt := by rw [hs1]; rfl
  have z18_hs1 : zfi 18 (ct 0) = ln08.toInt := by rw [hs1]; rfl
  have z21_hs1 : zfi 21 (ct 0) = cmy11.toInt := by rw [hs1]; rfl
  have z22_hs1 : zfi 22 (ct 0) = wtg12.toInt := by rw [hs1]; rfl
  have loop0 : ∀ (n0 : Nat) (ct37 : Nat → va_E) (H : Heap) (locs : List Loc) (ls : Array Slot), ((zfi 22 (ct37 0) : Int).toNat < n0) → (zfi 17 (ct37 0) = zfi 17 (ct 0)) → (zfi 18 (ct37 0) = zfi 18 (ct 0)) → (PS (g.2 0) ct37 1 0 R0) → (IR g ad me ct37) → zP g (zw 32 ad ct37) H → va_D A (zw 32 ad ct37) → va_S A s.heap H locs → lv_has ls 3 [(0, .ref (ad 0)), (1, .int al)] → W p l e (headSpec (zW yX9_lands cX9_lands 3 none) ({ frames := 1, cells := 0, slots := 0, locals := 20 })).room s m ([.ref (ad 0), .int al] : List Value).toArray below meth c H locs 0 0 (MQ below (va_Qv (fun (_ : Unit) => True) (fun _ t => ∃ ct2 : Nat → va_E, zP g (zw 32 ad ct2) t.heap ∧ va_D A (zw 32 ad ct2) ∧ IR g ad me ct2 ∧ (zfi 17 (ct2 0) = zfi 17 (ct 0)) ∧ (zfi 18 (ct2 0) = zfi 18 (ct 0)) ∧ (PS (g.2 0) ct2 1 0 (fun fw W => R0 fw W ∧ (al.toInt = 1 → ¬ (kd (fw (W - 1)) = 11 ∨ kd (fw (W - 1)) = 12))))) A) ([.ref (ad 0), .int al] : List Value).toArray s 0 0 A) (F0 m 0 ls []) := by
    intro n0
    induction n0 with
    | zero =>
      intro ct37 H locs ls hn0 j0_0 j1_0 j2_0 hI hP hD hS hl
      exact absurd hn0 (Nat.not_lt_zero _)
    | succ n0 ih0 =>
      intro ct37 H locs ls hn0 j0_0 j1_0 j2_0 hI hP hD hS hl
      have hb0 := PS.bounds j2_0
      obtain ⟨bks39, lks40, gos41, shn42, tpd43, pl044, ln045, flt46, opn47, cmy48, wtg49, nm050, mst51, sus52, cut53, h54, h55, h56, h57, h58, h59, h60, h61, h62, h63, h64, h65, h66, h67, h68, h69, h70, h71, h72, h73, hs38⟩ := a9_0 hI.1
      have z17_hs38 : zfi 17 (ct37 0) = pl044.toInt := by rw [hs38]; rfl
      have z18_hs38 : zfi 18 (ct37 0) = ln045.toInt := by rw [hs38]; rfl
      have z21_hs38 : zfi 21 (ct37 0) = cmy48.toInt := by rw [hs38]; rfl
      have z22_hs38 : zfi 22 (ct37 0) = wtg49.toInt := by rw [hs38]; rfl
      obtain ⟨f75, hs74⟩ := a9_12 hI.1
      obtain ⟨f77, hs76⟩ := a9_13 hI.1
      refine lv_aload_n hx hb dX9_lands_0 rfl (lv_at hl 0 rfl) ?_
      refine zc_i (va_runV (As := []) (rest := []) ⟨hx, hb, hml, hown, hg⟩ (k_X9_top l g ad me ct37  hI) (cwV 0 hg (z_gV mm_1262 mm_1264 mm_73 mm_117 mm_1265) rfl rfl rfl (by decide +kernel) ⟨Nat.le_of_ble_eq_true rfl, Nat.le_of_ble_eq_true rfl⟩) ⟨(zR.pre [.ref (ad 0)] hP hK hN).1, va_recv hK hP (ci := 9) (q0 := 0) rfl (zw_at (by omega) hs38), (zR.pre [.ref (ad 0)] hP hK hN).2⟩ rfl rfl hl.1 rfl (lv_room (Nat.le_of_ble_eq_true rfl)) dX9_lands_1 ⟨Nat.le_of_ble_eq_true rfl, Nat.le_of_ble_eq_true rfl⟩) (fun r78 hr78 => ?_)
      have h79 := hr78
      clear hr78
      replace h79 : (zfi 22 (ct37 0) = 0 ∧ r78.toInt = -1) ∨ (1 ≤ zfi 22 (ct37 0) ∧ zk (ct37 13) (zfi 22 (ct37 0) - 1) r78) := h79
      have hvr78 := PS.topv j2_0 ((h79.resolve_left (by omega)).2)
      refine lv_bipush (v := 11) hx hb dX9_lands_4 (by decide) ?_
      refine lv_icmp_eq (tgt := 22) hx hb dX9_lands_6 (by decide) (fun c80 => ?_) (fun c80 => ?_)
      · skip
        have c80 : r78.toInt = 11 := (z_eq rfl (by decide : (11 : Int32).toInt = 11)).mp c80
        have hjt : kd (f77 (zfi 22 (ct37 0) - 1).toNat) = 11 ∨ kd (f77 (zfi 22 (ct37 0) - 1).toNat) = 12 := by rw [← ztp_of hs76]; omega
        have hja := PS.jat j2_0 hs74 hs76 hjt
        refine lv_aload_n hx hb dX9_lands_22 rfl (lv_at hl 0 rfl) ?_
        refine va_get (D := g.1) (ci := 9) (v := .ref (ad 13)) (C := RX9) (T := TX9) (N := 47) hx hb hg inG9 hown hK hP 0 (zw_at (by omega) hs38) rfl 25 (by decide) (hg _ mm_983) (fun _ h9 => h9) rfl dX9_lands_23 ?_
        refine lv_aload_n hx hb dX9_lands_26 rfl (lv_at hl 0 rfl) ?_
        refine va_get (D := g.1) (ci := 9) (v := .int wtg49) (C := RX9) (T := TX9) (N := 47) hx hb hg inG9 hown hK hP 0 (zw_at (by omega) hs38) rfl 22 (by decide) (hg _ mm_980) (fun _ h9 => h9) rfl dX9_lands_27 ?_
        refine lv_iconst (v := 1) hx hb dX9_lands_30 (by decide) ?_
        refine lv_isub hx hb dX9_lands_31 ?_
        refine lv_topi (fun x81 ex81 => ?_)
        have tx81 : x81.toInt = wtg49.toInt - 1 := by rw [ex81]; exact z_sub rfl (by decide : (1 : Int32).toInt = 1) (by omega) (by omega)
        refine va_iald hx hb hK hP 13 0 (zw_at (by omega) hs76) rfl (z_in rfl (by omega) (by omega)) dX9_lands_32 ?_
        refine lv_topi (fun y82 ey82 => ?_)
        have ey2 : y82 = f77 (zfi 22 (ct37 0) - 1).toNat := by rw [ey82, z_cl (k := (zfi 22 (ct37 0) - 1).toNat) (by omega)]
        have hy0 : 0 ≤ y82.toInt := by rw [ey2]; exact hja.1
        refine lv_ldc hx hb hown (hg _ mm_1227) dX9_lands_33 ?_
        refine lv_irem hx hb dX9_lands_35 (by decide) ?_
        refine lv_topi (fun x83 ex83 => ?_)
        have tx83 := z_rem (x := y82) (y := 1048576) rfl (by decide : (1048576 : Int32).toInt = 1048576) (by omega) (by omega)
        rw [← ex83] at tx83
        have hxa : x83.toInt = ar (f77 (zfi 22 (ct37 0) - 1).toNat) := by rw [← ey2]; unfold ar; omega
        refine lv_istore_n (lv' := [(2, .int x83), (0, .ref (ad 0)), (1, .int al)]) hx hb dX9_lands_36 rfl hl (by decide) rfl (fun ls hl => ?_)
        refine lv_aload_n hx hb dX9_lands_37 rfl (lv_at hl 1 rfl) ?_
        refine va_get (D := g.1) (ci := 9) (v := .ref (ad 12)) (C := RX9) (T := TX9) (N := 47) hx hb hg inG9 hown hK hP 0 (zw_at (by omega) hs38) rfl 24 (by decide) (hg _ mm_982) (fun _ h9 => h9) rfl dX9_lands_38 ?_
        refine lv_iload_n hx hb dX9_lands_41 rfl (lv_at hl 0 rfl) ?_
        refine lv_ldc hx hb hown (hg _ mm_1227) dX9_lands_42 ?_
        refine lv_aload_n hx hb dX9_lands_44 rfl (lv_at hl 1 rfl) ?_
        refine va_get (D := g.1) (ci := 9) (v := .ref (ad 12)) (C := RX9) (T := TX9) (N := 47) hx hb hg inG9 hown hK hP 0 (zw_at (by omega) hs38) rfl 24 (by decide) (hg _ mm_982) (fun _ h9 => h9) rfl dX9_lands_45 ?_
        refine lv_iload_n hx hb dX9_lands_48 rfl (lv_at hl 0 rfl) ?_
        refine va_iald hx hb hK hP 12 0 (zw_at (by omega) hs74) rfl (z_in rfl (by omega) (by omega)) dX9_lands_49 ?_
        refine lv_topi (fun y84 ey84 => ?_)
        have ez2 : y84 = f75 (ar (f77 (zfi 22 (ct37 0) - 1).toNat)).toNat := by rw [ey84, z_cl (k := (ar (f77 (zfi 22 (ct37 0) - 1).toNat)).toNat) (by omega)]
        have hz0 : 0 ≤ y84.toInt := by rw [ez2]; exact hja.2.2.2.1
        have hz12 : y84.toInt / 1048576 ≤ 12 := by
          have q := hja.2.2.2.2
          rw [← ez2] at q
          exact q
        refine lv_ldc hx hb hown (hg _ mm_1227) dX9_lands_50 ?_
        refine lv_idiv hx hb dX9_lands_52 (by decide) ?_
        refine lv_topi (fun x85 ex85 => ?_)
        have tx85 := z_div (x := y84) (y := 1048576) rfl (by decide : (1048576 : Int32).toInt = 1048576) (by omega) (by omega)
        rw [← ex85] at tx85
        refine lv_imul hx hb dX9_lands_53 ?_
        refine lv_topi (fun x86 ex86 => ?_)
        have tx86 : x86.toInt = 1048576 * x85.toInt := by rw [ex86]; exact z_mul (by decide : (1048576 : Int32).toInt = 1048576) rfl (by omega) (by omega)
        refine lv_aload_n hx hb dX9_lands_54 rfl (lv_at hl 1 rfl) ?_
        refine va_get (D := g.1) (ci := 9) (v := .int cmy48) (C := RX9) (T := TX9) (N := 47) hx hb hg inG9 hown hK hP 0 (zw_at (by omega) hs38) rfl 21 (by decide) (hg _ mm_979) (fun _ h9 => h9) rfl dX9_lands_55 ?_
        refine lv_iadd hx hb dX9_lands_58 ?_
        refine lv_topi (fun x87 ex87 => ?_)
        have tx87 : x87.toInt = x86.toInt + cmy48.toInt := by rw [ex87]; exact z_add rfl rfl (by omega) (by omega)
        refine va_iast hx hb hK hP hD hS 12 0 (zw_at (by omega) hs74) rfl (z_in rfl (by omega) (by omega)) dX9_lands_59 (fun H locs hP hD hS => ?_)
        have hP : zP g ((zw 32 ad ct37).set 12 (ad 12, .inl (g.2 0, 120, .inl (upd f75 (Int32.toNatClampNeg x83) x87)))) H := hP
        have hD : va_D A ((zw 32 ad ct37).set 12 (ad 12, .inl (g.2 0, 120, .inl (upd f75 (Int32.toNatClampNeg x83) x87)))) := hD
        rw [zw_set (by omega)] at hP hD
        obtain ⟨ct89, ec90⟩ : ∃ z : Nat → va_E, z = va_up ct37 12 (.inl (g.2 0, 120, .inl (upd f75 (Int32.toNatClampNeg x83) x87))) := ⟨_, rfl⟩
        rw [← ec90] at hP hD
        have hI : IR g ad me ct89 := by rw [ec90]; exact upR hI (by decide) (i9_12 ⟨_, rfl⟩)
        have hs91 : ct89 0 = .inr (9, [.int me, .ref (ad 1), .ref (ad 2), .ref (ad 3), .ref (ad 4), .int bks39, .int lks40, .int gos41, .int shn42, .ref (ad 5), .ref (ad 6), .ref (ad 7), .ref (ad 8), .ref (ad 9), .ref (ad 10), .ref (ad 11), .int tpd43, .int pl044, .int ln045, .int flt46, .int opn47, .int cmy48, .int wtg49, .int nm050, .ref (ad 12), .ref (ad 13), .ref (ad 14), .ref (ad 15), .ref (ad 16), .ref (ad 17), .ref (ad 18), .ref (ad 19), .ref (ad 20), .ref (ad 21), .ref (ad 22), .ref (ad 23), .ref (ad 24), .ref (ad 25), .ref (ad 26), .ref (ad 27), .int mst51, .int sus52, .ref (ad 28), .ref (ad 29), .ref (ad 30), .ref (ad 31), .int cut53]) := by rw [ec90, va_up_ne _ _ (by omega)]; exact hs38
        have hs92 : ct89 13 = .inl (g.2 0, 120, .inl f77) := by rw [ec90, va_up_ne _ _ (by omega)]; exact hs76
        have hs93 : ct89 12 = .inl (g.2 0, 120, .inl (upd f75 (Int32.toNatClampNeg x83) x87)) := by rw [ec90]; exact va_up_self _ _ _
        have z17_hs91 : zfi 17 (ct89 0) = (pl044 : Int32).toInt := by rw [hs91]; rfl
        have z18_hs91 : zfi 18 (ct89 0) = (ln045 : Int32).toInt := by rw [hs91]; rfl
        have z21_hs91 : zfi 21 (ct89 0) = (cmy48 : Int32).toInt := by rw [hs91]; rfl
        have z22_hs91 : zfi 22 (ct89 0) = (wtg49 : Int32).toInt := by rw [hs91]; rfl
        refine lv_aload_n hx hb dX9_lands_60 rfl (lv_at hl 1 rfl) ?_
        refine lv_aload_n hx hb dX9_lands_61 rfl (lv_at hl 1 rfl) ?_
        refine va_get (D := g.1) (ci := 9) (v := .int wtg49) (C := RX9) (T := TX9) (N := 47) hx hb hg inG9 hown hK hP 0 (zw_at (by omega) hs91) rfl 22 (by decide) (hg _ mm_980) (fun _ h9 => h9) rfl dX9_lands_62 ?_
        refine lv_iconst (v := 1) hx hb dX9_lands_65 (by decide) ?_
        refine lv_isub hx hb dX9_lands_66 ?_
        refine lv_topi (fun x94 ex94 => ?_)
        obtain rfl : x81 = x94 := ex81.trans ex94.symm
        refine va_put (D := g.1) (ci := 9) (v := .int x81) (ty := .int) (C := RX9) (T := TX9) (N := 47) hx hb hg inG9 tyX9 tyX9_ok nmX9 hown hK hP hD hS 0 (zw_at (by omega) hs91) rfl 22 (by decide) (hg _ mm_980) (fun _ h9 => h9) rfl (by decide +kernel) rfl rfl (Nat.le_of_ble_eq_true rfl) dX9_lands_67 (fun H locs hP hD hS => ?_)
        have hP : zP g ((zw 32 ad ct89).set 0 (ad 0, .inr (9, [.int me, .ref (ad 1), .ref (ad 2), .ref (ad 3), .ref (ad 4), .int bks39, .int lks40, .int gos41, .int shn42, .ref (ad 5), .ref (ad 6), .ref (ad 7), .ref (ad 8), .ref (ad 9), .ref (ad 10), .ref (ad 11), .int tpd43, .int pl044, .int ln045, .int flt46, .int opn47, .int cmy48, .int x81, .int nm050, .ref (ad 12), .ref (ad 13), .ref (ad 14), .ref (ad 15), .ref (ad 16), .ref (ad 17), .ref (ad 18), .ref (ad 19), .ref (ad 20), .ref (ad 21), .ref (ad 22), .ref (ad 23), .ref (ad 24), .ref (ad 25), .ref (ad 26), .ref (ad 27), .int mst51, .int sus52, .ref (ad 28), .ref (ad 29), .ref (ad 30), .ref (ad 31), .int cut53]))) H := hP
        have hD : va_D A ((zw 32 ad ct89).set 0 (ad 0, .inr (9, [.int me, .ref (ad 1), .ref (ad 2), .ref (ad 3), .ref (ad 4), .int bks39, .int lks40, .int gos41, .int shn42, .ref (ad 5), .ref (ad 6), .ref (ad 7), .ref (ad 8), .ref (ad 9), .ref (ad 10), .ref (ad 11), .int tpd43, .int pl044, .int ln045, .int flt46, .int opn47, .int cmy48, .int x81, .int nm050, .ref (ad 12), .ref (ad 13), .ref (ad 14), .ref (ad 15), .ref (ad 16), .ref (ad 17), .ref (ad 18), .ref (ad 19), .ref (ad 20), .ref (ad 21), .ref (ad 22), .ref (ad 23), .ref (ad 24), .ref (ad 25), .ref (ad 26), .ref (ad 27), .int mst51, .int sus52, .ref (ad 28), .ref (ad 29), .ref (ad 30), .ref (ad 31), .int cut53]))) := hD
        rw [zw_set (by omega)] at hP hD
        obtain ⟨ct95, ec96⟩ : ∃ z : Nat → va_E, z = va_up ct89 0 (.inr (9, [.int me, .ref (ad 1), .ref (ad 2), .ref (ad 3), .ref (ad 4), .int bks39, .int lks40, .int gos41, .int shn42, .ref (ad 5), .ref (ad 6), .ref (ad 7), .ref (ad 8), .ref (ad 9), .ref (ad 10), .ref (ad 11), .int tpd43, .int pl044, .int ln045, .int flt46, .int opn47, .int cmy48, .int x81, .int nm050, .ref (ad 12), .ref (ad 13), .ref (ad 14), .ref (ad 15), .ref (ad 16), .ref (ad 17), .ref (ad 18), .ref (ad 19), .ref (ad 20), .ref (ad 21), .ref (ad 22), .ref (ad 23), .ref (ad 24), .ref (ad 25), .ref (ad 26), .ref (ad 27), .int mst51, .int sus52, .ref (ad 28), .ref (ad 29), .ref (ad 30), .ref (ad 31), .int cut53])) := ⟨_, rfl⟩
        rw [← ec96] at hP hD
        have hI : IR g ad me ct95 := by rw [ec96]; exact upR hI (by decide) (i9_0 ⟨(bks39 : Int32), (lks40 : Int32), (gos41 : Int32), (shn42 : Int32), (tpd43 : Int32), (pl044 : Int32), (ln045 : Int32), (flt46 : Int32), (opn47 : Int32), (cmy48 : Int32), (x81 : Int32), (nm050 : Int32), (mst51 : Int32), (sus52 : Int32), (cut53 : Int32), (by first | omega | decide), (by first | omega | decide), (by first | omega | decide), (by first | omega | decide), (by first | omega | decide), (by first | omega | decide), (by first | omega | decide), (by first | omega | decide), (by first | omega | decide), (by first | omega | decide), (by first | omega | decide), (by first | omega | decide), (by first | omega | decide), (by first | omega | decide), (by first | omega | decide), (by first | omega | decide), (by first | omega | decide), (by first | omega | decide), (by first | omega | decide), (by first | omega | decide), rfl⟩)
        have hs97 : ct95 13 = .inl (g.2 0, 120, .inl f77) := by rw [ec96, va_up_ne _ _ (by omega)]; exact hs92
        have hs98 : ct95 12 = .inl (g.2 0, 120, .inl (upd f75 (Int32.toNatClampNeg x83) x87)) := by rw [ec96, va_up_ne _ _ (by omega)]; exact hs93
        have hs99 : ct95 0 = .inr (9, [.int me, .ref (ad 1), .ref (ad 2), .ref (ad 3), .ref (ad 4), .int bks39, .int lks40, .int gos41, .int shn42, .ref (ad 5), .ref (ad 6), .ref (ad 7), .ref (ad 8), .ref (ad 9), .ref (ad 10), .ref (ad 11), .int tpd43, .int pl044, .int ln045, .int flt46, .int opn47, .int cmy48, .int x81, .int nm050, .ref (ad 12), .ref (ad 13), .ref (ad 14), .ref (ad 15), .ref (ad 16), .ref (ad 17), .ref (ad 18), .ref (ad 19), .ref (ad 20), .ref (ad 21), .ref (ad 22), .ref (ad 23), .ref (ad 24), .ref (ad 25), .ref (ad 26), .ref (ad 27), .int mst51, .int sus52, .ref (ad 28), .ref (ad 29), .ref (ad 30), .ref (ad 31), .int cut53]) := by rw [ec96]; exact va_up_self _ _ _
        have z17_hs99 : zfi 17 (ct95 0) = (pl044 : Int32).toInt := by rw [hs99]; rfl
        have z18_hs99 : zfi 18 (ct95 0) = (ln045 : Int32).toInt := by rw [hs99]; rfl
        have z21_hs99 : zfi 21 (ct95 0) = (cmy48 : Int32).toInt := by rw [hs99]; rfl
        have z22_hs99 : zfi 22 (ct95 0) = (x81 : Int32).toInt := by rw [hs99]; rfl
        have hps2 := PS.land j2_0 (i := x83) hs74 hs76 (by omega) (by omega) (by omega) (by omega) hs98 (hs97.trans hs76.symm) hjt hxa (fun _ => by rw [← ey84]; unfold kd; omega)
        refine lv_goto (tgt := 0) hx hb dX9_lands_70 (by decide) ?_
        exact ih0  ct95 _ _ ls (by omega) (by first | assumption | omega | decide) (by first | assumption | omega | decide) (by first | assumption | omega | decide) hI hP hD hS (lv_sub hl [1, 2] rfl)
      · skip
        have c80 : ¬ (r78.toInt = 11) := fun q => c80 ((z_eq rfl (by decide : (11 : Int32).toInt = 11)).mpr q)
        refine lv_iload_n hx hb dX9_lands_9 rfl (lv_at hl 1 rfl) ?_
        refine lv_if_eq (tgt := 73) hx hb dX9_lands_10 (by decide) (fun c100 => ?_) (fun c100 => ?_)
        · skip
          have c100 : al.toInt = 0 := (z_eq rfl (by decide : (0 : Int32).toInt = 0)).mp c100
          exact W.vret hx hb hr (fun t ht hW => ⟨⟨(), rfl, trivial, ct37, by rw [ht]; exact hP, hD, hI, (by first | assumption | omega), (by first | assumption | omega), (PS.topR j2_0 (fun fw W h1 h2 h3 => ⟨h1, fun q => by omega⟩))⟩, hS.F ht⟩) hS.2.2 dX9_lands_73
        · skip
          have c100 : ¬ (al.toInt = 0) := fun q => c100 ((z_eq rfl (by decide : (0 : Int32).toInt = 0)).mpr q)
          refine lv_aload_n hx hb dX9_lands_13 rfl (lv_at hl 0 rfl) ?_
          refine zc_i (va_runV (As := []) (rest := []) ⟨hx, hb, hml, hown, hg⟩ (k_X9_top l g ad me ct37  hI) (cwV 0 hg (z_gV mm_1262 mm_1264 mm_73 mm_117 mm_1265) rfl rfl rfl (by decide +kernel) ⟨Nat.le_of_ble_eq_true rfl, Nat.le_of_ble_eq_true rfl⟩) ⟨(zR.pre [.ref (ad 0)] hP hK hN).1, va_recv hK hP (ci := 9) (q0 := 0) rfl (zw_at (by omega) hs38), (zR.pre [.ref (ad 0)] hP hK hN).2⟩ rfl rfl hl.1 rfl (lv_room (Nat.le_of_ble_eq_true rfl)) dX9_lands_14 ⟨Nat.le_of_ble_eq_true rfl, Nat.le_of_ble_eq_true rfl⟩) (fun r101 hr101 => ?_)
          have h102 := hr101
          clear hr101
          replace h102 : (zfi 22 (ct37 0) = 0 ∧ r101.toInt = -1) ∨ (1 ≤ zfi 22 (ct37 0) ∧ zk (ct37 13) (zfi 22 (ct37 0) - 1) r101) := h102
          have hvr101 := PS.topv j2_0 ((h102.resolve_left (by omega)).2)
          refine lv_bipush (v := 12) hx hb dX9_lands_17 (by decide) ?_
          refine lv_icmp_ne (tgt := 73) hx hb dX9_lands_19 (by decide) (fun c103 => ?_) (fun c103 => ?_)
          · skip
            have c103 : ¬ (r101.toInt = 12) := fun q => c103 ((z_eq rfl (by decide : (12 : Int32).toInt = 12)).mpr q)
            exact W.vret hx hb hr (fun t ht hW => ⟨⟨(), rfl, trivial, ct37, by rw [ht]; exact hP, hD, hI, (by first | assumption | omega), (by first | assumption | omega), (PS.topR j2_0 (fun fw W h1 h2 h3 => ⟨h1, fun q => by omega⟩))⟩, hS.F ht⟩) hS.2.2 dX9_lands_73
          · skip
            have c103 : r101.toInt = 12 := (z_eq rfl (by decide : (12 : Int32).toInt = 12)).mp c103
            have hjt : kd (f77 (zfi 22 (ct37 0) - 1).toNat) = 11 ∨ kd (f77 (zfi 22 (ct37 0) - 1).toNat) = 12 := by rw [← ztp_of hs76]; omega
            have hja := PS.jat j2_0 hs74 hs76 hjt
            refine lv_aload_n hx hb dX9_lands_22 rfl (lv_at hl 0 rfl) ?_
            refine va_get (D := g.1) (ci := 9) (v := .ref (ad 13)) (C := RX9) (T := TX9) (N := 47) hx hb hg inG9 hown hK hP 0 (zw_at (by omega) hs38) rfl 25 (by decide) (hg _ mm_983) (fun _ h9 => h9) rfl dX9_lands_23 ?_
            refine lv_aload_n hx hb dX9_lands_26 rfl (lv_at hl 0 rfl) ?_
            refine va_get (D := g.1) (ci := 9) (v := .int wtg49) (C := RX9) (T := TX9) (N := 47) hx hb hg inG9 hown hK hP 0 (zw_at (by omega) hs38) rfl 22 (by decide) (hg _ mm_980) (fun _ h9 => h9) rfl dX9_lands_27 ?_
            refine lv_iconst (v := 1) hx hb dX9_lands_30 (by decide) ?_
            refine lv_isub hx hb dX9_lands_31 ?_
            refine lv_topi (fun x104 ex104 => ?_)
            have tx104 : x104.toInt = wtg49.toInt - 1 := by rw [ex104]; exact z_sub rfl (by decide : (1 : Int32).toInt = 1) (by omega) (by omega)
            refine va_iald hx hb hK hP 13 0 (zw_at (by omega) hs76) rfl (z_in rfl (by omega) (by omega)) dX9_lands_32 ?_
            refine lv_topi (fun y105 ey105 => ?_)
            have ey2 : y105 = f77 (zfi 22 (ct37 0) - 1).toNat := by rw [ey105, z_cl (k := (zfi 22 (ct37 0) - 1).toNat) (by omega)]
            have hy0 : 0 ≤ y105.toInt := by rw [ey2]; exact hja.1
            refine lv_ldc hx hb hown (hg _ mm_1227) dX9_lands_33 ?_
            refine lv_irem hx hb dX9_lands_35 (by decide) ?_
            refine lv_topi (fun x106 ex106 => ?_)
            have tx106 := z_rem (x := y105) (y := 1048576) rfl (by decide : (1048576 : Int32).toInt = 1048576) (by omega) (by omega)
            rw [← ex106] at tx106
            have hxa : x106.toInt = ar (f77 (zfi 22 (ct37 0) - 1).toNat) := by rw [← ey2]; unfold ar; omega
            refine lv_istore_n (lv' := [(2, .int x106), (0, .ref (ad 0)), (1, .int al)]) hx hb dX9_lands_36 rfl hl (by decide) rfl (fun ls hl => ?_)
            refine lv_aload_n hx hb dX9_lands_37 rfl (lv_at hl 1 rfl) ?_
            refine va_get (D := g.1) (ci := 9) (v := .ref (ad 12)) (C := RX9) (T := TX9) (N := 47) hx hb hg inG9 hown hK hP 0 (zw_at (by omega) hs38) rfl 24 (by decide) (hg _ mm_982) (fun _ h9 => h9) rfl dX9_lands_38 ?_
            refine lv_iload_n hx hb dX9_lands_41 rfl (lv_at hl 0 rfl) ?_
            refine lv_ldc hx hb hown (hg _ mm_1227) dX9_lands_42 ?_
            refine lv_aload_n hx hb dX9_lands_44 rfl (lv_at hl 1 rfl) ?_
            refine va_get (D := g.1) (ci := 9) (v := .ref (ad 12)) (C := RX9) (T := TX9) (N := 47) hx hb hg inG9 hown hK hP 0 (zw_at (by omega) hs38) rfl 24 (by decide) (hg _ mm_982) (fun _ h9 => h9) rfl dX9_lands_45 ?_
            refine lv_iload_n hx hb dX9_lands_48 rfl (lv_at hl 0 rfl) ?_
            refine va_iald hx hb hK hP 12 0 (zw_at (by omega) hs74) rfl (z_in rfl (by omega) (by omega)) dX9_lands_49 ?_
            refine lv_topi (fun y107 ey107 => ?_)
            have ez2 : y107 = f75 (ar (f77 (zfi 22 (ct37 0) - 1).toNat)).toNat := by rw [ey107, z_cl (k := (ar (f77 (zfi 22 (ct37 0) - 1).toNat)).toNat) (by omega)]
            have hz0 : 0 ≤ y107.toInt := by rw [ez2]; exact hja.2.2.2.1
            have hz12 : y107.toInt / 1048576 ≤ 12 := by
              have q := hja.2.2.2.2
              rw [← ez2] at q
              exact q
            refine lv_ldc hx hb hown (hg _ mm_1227) dX9_lands_50 ?_
            refine lv_idiv hx hb dX9_lands_52 (by decide) ?_
            refine lv_topi (fun x108 ex108 => ?_)
            have tx108 := z_div (x := y107) (y := 1048576) rfl (by decide : (1048576 : Int32).toInt = 1048576) (by omega) (by omega)
            rw [← ex108] at tx108
            refine lv_imul hx hb dX9_lands_53 ?_
            refine lv_topi (fun x109 ex109 => ?_)
            have tx109 : x109.toInt = 1048576 * x108.toInt := by rw [ex109]; exact z_mul (by decide : (1048576 : Int32).toInt = 1048576) rfl (by omega) (by omega)
            refine lv_aload_n hx hb dX9_lands_54 rfl (lv_at hl 1 rfl) ?_
            refine va_get (D := g.1) (ci := 9) (v := .int cmy48) (C := RX9) (T := TX9) (N := 47) hx hb hg inG9 hown hK hP 0 (zw_at (by omega) hs38) rfl 21 (by decide) (hg _ mm_979) (fun _ h9 => h9) rfl dX9_lands_55 ?_
            refine lv_iadd hx hb dX9_lands_58 ?_
            refine lv_topi (fun x110 ex110 => ?_)
            have tx110 : x110.toInt = x109.toInt + cmy48.toInt := by rw [ex110]; exact z_add rfl rfl (by omega) (by omega)
            refine va_iast hx hb hK hP hD hS 12 0 (zw_at (by omega) hs74) rfl (z_in rfl (by omega) (by omega)) dX9_lands_59 (fun H locs hP hD hS => ?_)
            have hP : zP g ((zw 32 ad ct37).set 12 (ad 12, .inl (g.2 0, 120, .inl (upd f75 (Int32.toNatClampNeg x106) x110)))) H := hP
            have hD : va_D A ((zw 32 ad ct37).set 12 (ad 12, .inl (g.2 0, 120, .inl (upd f75 (Int32.toNatClampNeg x106) x110)))) := hD
            rw [zw_set (by omega)] at hP hD
            obtain ⟨ct112, ec113⟩ : ∃ z : Nat → va_E, z = va_up ct37 12 (.inl (g.2 0, 120, .inl (upd f75 (Int32.toNatClampNeg x106) x110))) := ⟨_, rfl⟩
            rw [← ec113] at hP hD
            have hI : IR g ad me ct112 := by rw [ec113]; exact upR hI (by decide) (i9_12 ⟨_, rfl⟩)
            have hs114 : ct112 0 = .inr (9, [.int me, .ref (ad 1), .ref (ad 2), .ref (ad 3), .ref (ad 4), .int bks39, .int lks40, .int gos41, .int shn42, .ref (ad 5), .ref (ad 6), .ref (ad 7), .ref (ad 8), .ref (ad 9), .ref (ad 10), .ref (ad 11), .int tpd43, .int pl044, .int ln045, .int flt46, .int opn47, .int cmy48, .int wtg49, .int nm050, .ref (ad 12), .ref (ad 13), .ref (ad 14), .ref (ad 15), .ref (ad 16), .ref (ad 17), .ref (ad 18), .ref (ad 19), .ref (ad 20), .ref (ad 21), .ref (ad 22), .ref (ad 23), .ref (ad 24), .ref (ad 25), .ref (ad 26), .ref (ad 27), .int mst51, .int sus52, .ref (ad 28), .ref (ad 29), .ref (ad 30), .ref (ad 31), .int cut53]) := by rw [ec113, va_up_ne _ _ (by omega)]; exact hs38
            have hs115 : ct112 13 = .inl (g.2 0, 120, .inl f77) := by rw [ec113, va_up_ne _ _ (by omega)]; exact hs76
            have hs116 : ct112 12 = .inl (g.2 0, 120, .inl (upd f75 (Int32.toNatClampNeg x106) x110)) := by rw [ec113]; exact va_up_self _ _ _
            have z17_hs114 : zfi 17 (ct112 0) = (pl044 : Int32).toInt := by rw [hs114]; rfl
            have z18_hs114 : zfi 18 (ct112 0) = (ln045 : Int32).toInt := by rw [hs114]; rfl
            have z21_hs114 : zfi 21 (ct112 0) = (cmy48 : Int32).toInt := by rw [hs114]; rfl
            have z22_hs114 : zfi 22 (ct112 0) = (wtg49 : Int32).toInt := by rw [hs114]; rfl
            refine lv_aload_n hx hb dX9_lands_60 rfl (lv_at hl 1 rfl) ?_
            refine lv_aload_n hx hb dX9_lands_61 rfl (lv_at hl 1 rfl) ?_
            refine va_get (D := g.1) (ci := 9) (v := .int wtg49) (C := RX9) (T := TX9) (N := 47) hx hb hg inG9 hown hK hP 0 (zw_at (by omega) hs114) rfl 22 (by decide) (hg _ mm_980) (fun _ h9 => h9) rfl dX9_lands_62 ?_
            refine lv_iconst (v := 1) hx hb dX9_lands_65 (by decide) ?_
            refine lv_isub hx hb dX9_lands_66 ?_
            refine lv_topi (fun x117 ex117 => ?_)
            obtain rfl : x104 = x117 := ex104.trans ex117.symm
            refine va_put (D := g.1) (ci := 9) (v := .int x104) (ty := .int) (C := RX9) (T := TX9) (N := 47) hx hb hg inG9 tyX9 tyX9_ok nmX9 hown hK hP hD hS 0 (zw_at (by omega) hs114) rfl 22 (by decide) (hg _ mm_980) (fun _ h9 => h9) rfl (by decide +kernel) rfl rfl (Nat.le_of_ble_eq_true rfl) dX9_lands_67 (fun H locs hP hD hS => ?_)
            have hP : zP g ((zw 32 ad ct112).set 0 (ad 0, .inr (9, [.int me, .ref (ad 1), .ref (ad 2), .ref (ad 3), .ref (ad 4), .int bks39, .int lks40, .int gos41, .int shn42, .ref (ad 5), .ref (ad 6), .ref (ad 7), .ref (ad 8), .ref (ad 9), .ref (ad 10), .ref (ad 11), .int tpd43, .int pl044, .int ln045, .int flt46, .int opn47, .int cmy48, .int x104, .int nm050, .ref (ad 12), .ref (ad 13), .ref (ad 14), .ref (ad 15), .ref (ad 16), .ref (ad 17), .ref (ad 18), .ref (ad 19), .ref (ad 20), .ref (ad 21), .ref (ad 22), .ref (ad 23), .ref (ad 24), .ref (ad 25), .ref (ad 26), .ref (ad 27), .int mst51, .int sus52, .ref (ad 28), .ref (ad 29), .ref (ad 30), .ref (ad 31), .int cut53]))) H := hP
            have hD : va_D A ((zw 32 ad ct112).set 0 (ad 0, .inr (9, [.int me, .ref (ad 1), .ref (ad 2), .ref (ad 3), .ref (ad 4), .int bks39, .int lks40, .int gos41, .int shn42, .ref (ad 5), .ref (ad 6), .ref (ad 7), .ref (ad 8), .ref (ad 9), .ref (ad 10), .ref (ad 11), .int tpd43, .int pl044, .int ln045, .int flt46, .int opn47, .int cmy48, .int x104, .int nm050, .ref (ad 12), .ref (ad 13), .ref (ad 14), .ref (ad 15), .ref (ad 16), .ref (ad 17), .ref (ad 18), .ref (ad 19), .ref (ad 20), .ref (ad 21), .ref (ad 22), .ref (ad 23), .ref (ad 24), .ref (ad 25), .ref (ad 26), .ref (ad 27), .int mst51, .int sus52, .ref (ad 28), .ref (ad 29), .ref (ad 30), .ref (ad 31), .int cut53]))) := hD
            rw [zw_set (by omega)] at hP hD
            obtain ⟨ct118, ec119⟩ : ∃ z : Nat → va_E, z = va_up ct112 0 (.inr (9, [.int me, .ref (ad 1), .ref (ad 2), .ref (ad 3), .ref (ad 4), .int bks39, .int lks40, .int gos41, .int shn42, .ref (ad 5), .ref (ad 6), .ref (ad 7), .ref (ad 8), .ref (ad 9), .ref (ad 10), .ref (ad 11), .int tpd43, .int pl044, .int ln045, .int flt46, .int opn47, .int cmy48, .int x104, .int nm050, .ref (ad 12), .ref (ad 13), .ref (ad 14), .ref (ad 15), .ref (ad 16), .ref (ad 17), .ref (ad 18), .ref (ad 19), .ref (ad 20), .ref (ad 21), .ref (ad 22), .ref (ad 23), .ref (ad 24), .ref (ad 25), .ref (ad 26), .ref (ad 27), .int mst51, .int sus52, .ref (ad 28), .ref (ad 29), .ref (ad 30), .ref (ad 31), .int cut53])) := ⟨_, rfl⟩
            rw [← ec119] at hP hD
            have hI : IR g ad me ct118 := by rw [ec119]; exact upR hI (by decide) (i9_0 ⟨(bks39 : Int32), (lks40 : Int32), (gos41 : Int32), (shn42 : Int32), (tpd43 : Int32), (pl044 : Int32), (ln045 : Int32), (flt46 : Int32), (opn47 : Int32), (cmy48 : Int32), (x104 : Int32), (nm050 : Int32), (mst51 : Int32), (sus52 : Int32), (cut53 : Int32), (by first | omega | decide), (by first | omega | decide), (by first | omega | decide), (by first | omega | decide), (by first | omega | decide), (by first | omega | decide), (by first | omega | decide), (by first | omega | decide), (by first | omega | decide), (by first | omega | decide), (by first | omega | decide), (by first | omega | decide), (by first | omega | decide), (by first | omega | decide), (by first | omega | decide), (by first | omega | decide), (by first | omega | decide), (by first | omega | decide), (by first | omega | decide), (by first | omega | decide), rfl⟩)
            have hs120 : ct118 13 = .inl (g.2 0, 120, .inl f77) := by rw [ec119, va_up_ne _ _ (by omega)]; exact hs115
            have hs121 : ct118 12 = .inl (g.2 0, 120, .inl (upd f75 (Int32.toNatClampNeg x106) x110)) := by rw [ec119, va_up_ne _ _ (by omega)]; exact hs116
            have hs122 : ct118 0 = .inr (9, [.int me, .ref (ad 1), .ref (ad 2), .ref (ad 3), .ref (ad 4), .int bks39, .int lks40, .int gos41, .int shn42, .ref (ad 5), .ref (ad 6), .ref (ad 7), .ref (ad 8), .ref (ad 9), .ref (ad 10), .ref (ad 11), .int tpd43, .int pl044, .int ln045, .int flt46, .int opn47, .int cmy48, .int x104, .int nm050, .ref (ad 12), .ref (ad 13), .ref (ad 14), .ref (ad 15), .ref (ad 16), .ref (ad 17), .ref (ad 18), .ref (ad 19), .ref (ad 20), .ref (ad 21), .ref (ad 22), .ref (ad 23), .ref (ad 24), .ref (ad 25), .ref (ad 26), .ref (ad 27), .int mst51, .int sus52, .ref (ad 28), .ref (ad 29), .ref (ad 30), .ref (ad 31), .int cut53]) := by rw [ec119]; exact va_up_self _ _ _
            have z17_hs122 : zfi 17 (ct118 0) = (pl044 : Int32).toInt := by rw [hs122]; rfl
            have z18_hs122 : zfi 18 (ct118 0) = (ln045 : Int32).toInt := by rw [hs122]; rfl
            have z21_hs122 : zfi 21 (ct118 0) = (cmy48 : Int32).toInt := by rw [hs122]; rfl
            have z22_hs122 : zfi 22 (ct118 0) = (x104 : Int32).toInt := by rw [hs122]; rfl
            have hps2 := PS.land j2_0 (i := x106) hs74 hs76 (by omega) (by omega) (by omega) (by omega) hs121 (hs120.trans hs76.symm) hjt hxa (fun _ => by rw [← ey107]; unfold kd; omega)
            refine lv_goto (tgt := 0) hx hb dX9_lands_70 (by decide) ?_
            exact ih0  ct118 _ _ ls (by omega) (by first | assumption | omega | decide) (by first | assumption | omega | decide) (by first | assumption | omega | decide) hI hP hD hS (lv_sub hl [1, 2] rfl)
  exact loop0 ((zfi 22 (ct 0) : Int).toNat + 1)  ct _ _ ls (by omega) (by first | assumption | omega | decide) (by first | assumption | omega | decide) (by first | assumption | omega | decide) hI hP hD hS (lv_sub hl [0, 1] rfl)
