set_option maxHeartbeats 4000000 in
set_option maxRecDepth 100000 in
theorem k_X9_closesSums (l : Launch) (g : zG) (sz : Nat) (ad : Nat → Nat) (me : Int32) (ct : Nat → va_E) (al : Int32) (x : Nat) (y : Nat) (f0 : Nat → Int32) (W0 : Nat) (hl_al : 0 ≤ al.toInt ∧ al.toInt ≤ 1) (hI : IR g ad me ct) (hps : PS (g.2 0) ct (x + 1) y (fun fw W => fw = f0 ∧ W = W0)) : Met l yX9_closesSums (zW yX9_closesSums cX9_closesSums 2 none) ({ frames := 1, cells := 0, slots := 0, locals := 22 }) (va_Pc [.ref (ad 0), .int al] (zA g (zw 32 ad ct) sz)) (va_Qv (fun (_ : Unit) => True) (fun _ t => ∃ ct2 : Nat → va_E, zP g (zw 32 ad ct2) t.heap ∧ va_D (va_A (zw 32 ad ct) sz) (zw 32 ad ct2) ∧ IR g ad me ct2 ∧ (zfi 17 (ct2 0) = zfi 17 (ct 0)) ∧ (zfi 18 (ct2 0) = zfi 18 (ct 0)) ∧ (PS (g.2 0) ct2 (x + 1) y (RCa al.toInt f0 W0))) (va_A (zw 32 ad ct) sz)) 0 0 (va_A (zw 32 ad ct) sz) := by
  refine Met.ofW (cc := cX9_closesSums) (maxL := 2) (ret := none) (by decide) rfl ?_
  intro p e s m args below meth c s₁ B hml hv
  obtain ⟨rfl, hsz, hP, hK, hD0, hN⟩ := hv
  have hx := B.exec
  have hb := B.bytes
  have hr := B.returns
  have hg := zW.law (atoms_spec (ws := (zW yX9_closesSums cX9_closesSums 2 none)) B.pre)
  have hown : s.vm.findClass RX9 = some m.cls := findClass_of_methodNamed B.named
  have hlocks := B.notSynchronized
  have hpe0 := hI.1.1
  subst hsz
  have hD := hD0.self (sz := s.heap.size)
  generalize hAe : va_A (zw 32 ad ct) s.heap.size = A at hD ⊢
  have hA : ∀ q : Nat, s.heap.size ≤ q → A q := fun q h => by rw [← hAe]; exact Or.inr h
  have hS : va_S A s.heap s.heap [] := va_S.rf
  have hl := lv_entry ([.ref (ad 0), .int al]) (n := 2) (Nat.le_of_ble_eq_true rfl)
  rw [lg_entry_eq]
  generalize (lg_sl ([.ref (ad 0), .int al]) ++ List.replicate (2 - (lg_sl ([.ref (ad 0), .int al])).length) Slot.unset).toArray = ls at hl ⊢
  have hl : lv_has ls 2 [(0, .ref (ad 0)), (1, .int al)] := hl
  have hps := hps.mono (R2 := RC f0 W0) (fun fw W _ h => ⟨h.1, by omega, fun k h1 h2 => by omega⟩)
  obtain ⟨bks2, lks3, gos4, shn5, tpd6, pl07, ln08, flt9, opn10, cmy11, wtg12, nm013, mst14, sus15, cut16, h17, h18, h19, h20, h21, h22, h23, h24, h25, h26, h27, h28, h29, h30, h31, h32, h33, h34, h35, h36, hs1⟩ := a9_0 hI.1
  have z17_hs1 : zfi 17 (ct 0) = pl07.toInt := by rw [hs1]; rfl
  have z18_hs1 : zfi 18 (ct 0) = ln08.toInt := by rw [hs1]; rfl
  have z21_hs1 : zfi 21 (ct 0) = cmy11.toInt := by rw [hs1]; rfl
  have z22_hs1 : zfi 22 (ct 0) = wtg12.toInt := by rw [hs1]; rfl
  have loop0 : ∀ (n0 : Nat) (ct37 : Nat → va_E) (H : Heap) (locs : List Loc) (ls : Array Slot), ((zfi 22 (ct37 0) : Int).toNat < n0) → (zfi 17 (ct37 0) = zfi 17 (ct 0)) → (zfi 18 (ct37 0) = zfi 18 (ct 0)) → (PS (g.2 0) ct37 (x + 1) y (RC f0 W0)) → (IR g ad me ct37) → zP g (zw 32 ad ct37) H → va_D A (zw 32 ad ct37) → va_S A s.heap H locs → lv_has ls 2 [(0, .ref (ad 0)), (1, .int al)] → W p l e (headSpec (zW yX9_closesSums cX9_closesSums 2 none) ({ frames := 1, cells := 0, slots := 0, locals := 22 })).room s m ([.ref (ad 0), .int al] : List Value).toArray below meth c H locs 0 0 (MQ below (va_Qv (fun (_ : Unit) => True) (fun _ t => ∃ ct2 : Nat → va_E, zP g (zw 32 ad ct2) t.heap ∧ va_D A (zw 32 ad ct2) ∧ IR g ad me ct2 ∧ (zfi 17 (ct2 0) = zfi 17 (ct 0)) ∧ (zfi 18 (ct2 0) = zfi 18 (ct 0)) ∧ (PS (g.2 0) ct2 (x + 1) y (RCa al.toInt f0 W0))) A) ([.ref (ad 0), .int al] : List Value).toArray s 0 0 A) (F0 m 0 ls []) := by
    intro n0
    induction n0 with
    | zero =>
      intro ct37 H locs ls hn0 j0_0 j1_0 j2_0 hI hP hD hS hl
      exact absurd hn0 (Nat.not_lt_zero _)
    | succ n0 ih0 =>
      intro ct37 H locs ls hn0 j0_0 j1_0 j2_0 hI hP hD hS hl
      have hb0 := PS.bounds j2_0
      obtain ⟨bks39, lks40, gos41, shn42, tpd43, pl044, ln045, flt46, opn47, cmy48, wtg49, nm050, mst51, sus52, cut53, h54, h55, h56, h57, h58, h59, h60, h61, h62, h63, h64, h65, h66, h67, h68, h69, h70, h71, h72, h73, hs38⟩ := a9_0 hI.1
      have z17_hs38 : zfi 17 (ct37 0) = pl044.toInt := by rw [hs38]; rfl
      have z18_hs38 : zfi 18 (ct37 0) = ln045.toInt := by rw [hs38]; rfl
      have z21_hs38 : zfi 21 (ct37 0) = cmy48.toInt := by rw [hs38]; rfl
      have z22_hs38 : zfi 22 (ct37 0) = wtg49.toInt := by rw [hs38]; rfl
      obtain ⟨f75, hs74⟩ := a9_12 hI.1
      obtain ⟨f77, hs76⟩ := a9_13 hI.1
      refine lv_aload_n hx hb dX9_closesSums_0 rfl (lv_at hl 0 rfl) ?_
      refine zc_i (va_runV (As := []) (rest := []) ⟨hx, hb, hml, hown, hg⟩ (k_X9_top l g ad me ct37  hI) (cwV 0 hg (z_gV mm_1262 mm_1264 mm_73 mm_117 mm_1265) rfl rfl rfl (by decide +kernel) ⟨Nat.le_of_ble_eq_true rfl, Nat.le_of_ble_eq_true rfl⟩) ⟨(zR.pre [.ref (ad 0)] hP hK hN).1, va_recv hK hP (ci := 9) (q0 := 0) rfl (zw_at (by omega) hs38), (zR.pre [.ref (ad 0)] hP hK hN).2⟩ rfl rfl hl.1 rfl (lv_room (Nat.le_of_ble_eq_true rfl)) dX9_closesSums_1 ⟨Nat.le_of_ble_eq_true rfl, Nat.le_of_ble_eq_true rfl⟩) (fun r78 hr78 => ?_)
      have h79 := hr78
      clear hr78
      replace h79 : (zfi 22 (ct37 0) = 0 ∧ r78.toInt = -1) ∨ (1 ≤ zfi 22 (ct37 0) ∧ zk (ct37 13) (zfi 22 (ct37 0) - 1) r78) := h79
      have hvr78 := PS.topv j2_0 ((h79.resolve_left (by omega)).2)
      refine lv_iconst (v := 4) hx hb dX9_closesSums_4 (by decide) ?_
      refine lv_icmp_lt (tgt := 17) hx hb dX9_closesSums_5 (by decide) (fun c80 => ?_) (fun c80 => ?_)
      · skip
        have c80 : r78.toInt < 4 := (z_lt rfl (by decide : (4 : Int32).toInt = 4)).mp c80
        refine lv_iload_n hx hb dX9_closesSums_17 rfl (lv_at hl 1 rfl) ?_
        refine lv_if_eq (tgt := 59) hx hb dX9_closesSums_18 (by decide) (fun c81 => ?_) (fun c81 => ?_)
        · skip
          have c81 : al.toInt = 0 := (z_eq rfl (by decide : (0 : Int32).toInt = 0)).mp c81
          exact W.vret hx hb hr (fun t ht hW => ⟨⟨(), rfl, trivial, ct37, by rw [ht]; exact hP, hD, hI, (by first | assumption | omega), (by first | assumption | omega), (PS.topR j2_0 (fun fw W h1 h2 h3 => ⟨h1, h2, fun q => by omega⟩))⟩, hS.F ht⟩) hS.2.2 dX9_closesSums_59
        · skip
          have c81 : ¬ (al.toInt = 0) := fun q => c81 ((z_eq rfl (by decide : (0 : Int32).toInt = 0)).mpr q)
          refine lv_aload_n hx hb dX9_closesSums_21 rfl (lv_at hl 0 rfl) ?_
          refine zc_i (va_runV (As := []) (rest := []) ⟨hx, hb, hml, hown, hg⟩ (k_X9_top l g ad me ct37  hI) (cwV 0 hg (z_gV mm_1262 mm_1264 mm_73 mm_117 mm_1265) rfl rfl rfl (by decide +kernel) ⟨Nat.le_of_ble_eq_true rfl, Nat.le_of_ble_eq_true rfl⟩) ⟨(zR.pre [.ref (ad 0)] hP hK hN).1, va_recv hK hP (ci := 9) (q0 := 0) rfl (zw_at (by omega) hs38), (zR.pre [.ref (ad 0)] hP hK hN).2⟩ rfl rfl hl.1 rfl (lv_room (Nat.le_of_ble_eq_true rfl)) dX9_closesSums_22 ⟨Nat.le_of_ble_eq_true rfl, Nat.le_of_ble_eq_true rfl⟩) (fun r82 hr82 => ?_)
          have h83 := hr82
          clear hr82
          replace h83 : (zfi 22 (ct37 0) = 0 ∧ r82.toInt = -1) ∨ (1 ≤ zfi 22 (ct37 0) ∧ zk (ct37 13) (zfi 22 (ct37 0) - 1) r82) := h83
          have hvr82 := PS.topv j2_0 ((h83.resolve_left (by omega)).2)
          refine lv_iconst (v := 2) hx hb dX9_closesSums_25 (by decide) ?_
          refine lv_icmp_eq (tgt := 37) hx hb dX9_closesSums_26 (by decide) (fun c84 => ?_) (fun c84 => ?_)
          · skip
            have c84 : r82.toInt = 2 := (z_eq rfl (by decide : (2 : Int32).toInt = 2)).mp c84
            refine lv_aload_n hx hb dX9_closesSums_37 rfl (lv_at hl 0 rfl) ?_
            refine lv_aload_n hx hb dX9_closesSums_38 rfl (lv_at hl 0 rfl) ?_
            refine zc_i (va_runV (As := []) (rest := [.ref (ad 0)]) ⟨hx, hb, hml, hown, hg⟩ (k_X9_top l g ad me ct37  hI) (cwV 0 hg (z_gV mm_1262 mm_1264 mm_73 mm_117 mm_1265) rfl rfl rfl (by decide +kernel) ⟨Nat.le_of_ble_eq_true rfl, Nat.le_of_ble_eq_true rfl⟩) ⟨(zR.pre [.ref (ad 0)] hP hK hN).1, va_recv hK hP (ci := 9) (q0 := 0) rfl (zw_at (by omega) hs38), (zR.pre [.ref (ad 0)] hP hK hN).2⟩ rfl rfl hl.1 rfl (lv_room (Nat.le_of_ble_eq_true rfl)) dX9_closesSums_39 ⟨Nat.le_of_ble_eq_true rfl, Nat.le_of_ble_eq_true rfl⟩) (fun r85 hr85 => ?_)
            have h86 := hr85
            clear hr85
            replace h86 : (zfi 22 (ct37 0) = 0 ∧ r85.toInt = -1) ∨ (1 ≤ zfi 22 (ct37 0) ∧ zk (ct37 13) (zfi 22 (ct37 0) - 1) r85) := h86
            have hvr85 := PS.topv j2_0 ((h86.resolve_left (by omega)).2)
            refine lv_iconst (v := 0) hx hb dX9_closesSums_42 (by decide) ?_
            have hFc := zw_free hD hS hA
            refine va_callv (va_runV (As := [.int r85, .int 0]) (rest := []) ⟨hx, hb, hml, hown, hg⟩ (k_X9_notes l g _ ad me ct37 r85 (0 : Int32) (by first | omega | decide) (by first | omega | decide) hI (by first | assumption | omega | decide)) (cwV 2 hg (z_gV mm_1248 mm_1250 mm_71 mm_117 mm_1251) rfl rfl rfl (by decide +kernel) ⟨Nat.le_of_ble_eq_true rfl, Nat.le_of_ble_eq_true rfl⟩) ⟨(zA.pre [.ref (ad 0), .int r85, .int 0] hP hK hD hN).1, va_recv hK hP (ci := 9) (q0 := 0) rfl (zw_at (by omega) hs38), (zA.pre [.ref (ad 0), .int r85, .int 0] hP hK hD hN).2⟩ rfl rfl hl.1 rfl (lv_room (Nat.le_of_ble_eq_true rfl)) dX9_closesSums_43 ⟨Nat.le_of_ble_eq_true rfl, Nat.le_of_ble_eq_true rfl⟩) hS (fun q _ h => hFc q h) hFc (fun _ t H1 locs ht hvm hr87 hB hz1 hk1 hS => ?_)
            obtain ⟨ct88, hP1, hD1, hI, hk89, hk90, hk91, hk92, hk93, hk94⟩ := hB
            rw [ht] at hP1
            have hD := hD1.weaken (fun _ _ _ h => hFc _ h)
            generalize H1 = H at hP1 hS ⊢
            have hP := hP1
            refine W.widen (k := 0) (n := 0) (Nat.le_refl _) (Nat.le_refl _) ?_
            have hs95 : ct88 13 = .inl (g.2 0, 120, .inl f77) := hk94.trans hs76
            refine lv_aload_n hx hb dX9_closesSums_46 rfl (lv_at hl 0 rfl) ?_
            refine lv_aload_n hx hb dX9_closesSums_47 rfl (lv_at hl 0 rfl) ?_
            obtain ⟨bks97, lks98, gos99, shn100, tpd101, pl0102, ln0103, flt104, opn105, cmy106, wtg107, nm0108, mst109, sus110, cut111, h112, h113, h114, h115, h116, h117, h118, h119, h120, h121, h122, h123, h124, h125, h126, h127, h128, h129, h130, h131, hs96⟩ := a9_0 hI.1
            have z17_hs96 : zfi 17 (ct88 0) = pl0102.toInt := by rw [hs96]; rfl
            have z18_hs96 : zfi 18 (ct88 0) = ln0103.toInt := by rw [hs96]; rfl
            have z21_hs96 : zfi 21 (ct88 0) = cmy106.toInt := by rw [hs96]; rfl
            have z22_hs96 : zfi 22 (ct88 0) = wtg107.toInt := by rw [hs96]; rfl
            refine va_get (D := g.1) (ci := 9) (v := .int wtg107) (C := RX9) (T := TX9) (N := 47) hx hb hg inG9 hown hK hP 0 (zw_at (by omega) hs96) rfl 22 (by decide) (hg _ mm_980) (fun _ h9 => h9) rfl dX9_closesSums_48 ?_
            refine lv_iconst (v := 1) hx hb dX9_closesSums_51 (by decide) ?_
            refine lv_isub hx hb dX9_closesSums_52 ?_
            refine lv_topi (fun x132 ex132 => ?_)
            have tx132 : x132.toInt = wtg107.toInt - 1 := by rw [ex132]; exact z_sub rfl (by decide : (1 : Int32).toInt = 1) (by omega) (by omega)
            refine va_put (D := g.1) (ci := 9) (v := .int x132) (ty := .int) (C := RX9) (T := TX9) (N := 47) hx hb hg inG9 tyX9 tyX9_ok nmX9 hown hK hP hD hS 0 (zw_at (by omega) hs96) rfl 22 (by decide) (hg _ mm_980) (fun _ h9 => h9) rfl (by decide +kernel) rfl rfl (Nat.le_of_ble_eq_true rfl) dX9_closesSums_53 (fun H locs hP hD hS => ?_)
            have hP : zP g ((zw 32 ad ct88).set 0 (ad 0, .inr (9, [.int me, .ref (ad 1), .ref (ad 2), .ref (ad 3), .ref (ad 4), .int bks97, .int lks98, .int gos99, .int shn100, .ref (ad 5), .ref (ad 6), .ref (ad 7), .ref (ad 8), .ref (ad 9), .ref (ad 10), .ref (ad 11), .int tpd101, .int pl0102, .int ln0103, .int flt104, .int opn105, .int cmy106, .int x132, .int nm0108, .ref (ad 12), .ref (ad 13), .ref (ad 14), .ref (ad 15), .ref (ad 16), .ref (ad 17), .ref (ad 18), .ref (ad 19), .ref (ad 20), .ref (ad 21), .ref (ad 22), .ref (ad 23), .ref (ad 24), .ref (ad 25), .ref (ad 26), .ref (ad 27), .int mst109, .int sus110, .ref (ad 28), .ref (ad 29), .ref (ad 30), .ref (ad 31), .int cut111]))) H := hP
            have hD : va_D A ((zw 32 ad ct88).set 0 (ad 0, .inr (9, [.int me, .ref (ad 1), .ref (ad 2), .ref (ad 3), .ref (ad 4), .int bks97, .int lks98, .int gos99, .int shn100, .ref (ad 5), .ref (ad 6), .ref (ad 7), .ref (ad 8), .ref (ad 9), .ref (ad 10), .ref (ad 11), .int tpd101, .int pl0102, .int ln0103, .int flt104, .int opn105, .int cmy106, .int x132, .int nm0108, .ref (ad 12), .ref (ad 13), .ref (ad 14), .ref (ad 15), .ref (ad 16), .ref (ad 17), .ref (ad 18), .ref (ad 19), .ref (ad 20), .ref (ad 21), .ref (ad 22), .ref (ad 23), .ref (ad 24), .ref (ad 25), .ref (ad 26), .ref (ad 27), .int mst109, .int sus110, .ref (ad 28), .ref (ad 29), .ref (ad 30), .ref (ad 31), .int cut111]))) := hD
            rw [zw_set (by omega)] at hP hD
            obtain ⟨ct133, ec134⟩ : ∃ z : Nat → va_E, z = va_up ct88 0 (.inr (9, [.int me, .ref (ad 1), .ref (ad 2), .ref (ad 3), .ref (ad 4), .int bks97, .int lks98, .int gos99, .int shn100, .ref (ad 5), .ref (ad 6), .ref (ad 7), .ref (ad 8), .ref (ad 9), .ref (ad 10), .ref (ad 11), .int tpd101, .int pl0102, .int ln0103, .int flt104, .int opn105, .int cmy106, .int x132, .int nm0108, .ref (ad 12), .ref (ad 13), .ref (ad 14), .ref (ad 15), .ref (ad 16), .ref (ad 17), .ref (ad 18), .ref (ad 19), .ref (ad 20), .ref (ad 21), .ref (ad 22), .ref (ad 23), .ref (ad 24), .ref (ad 25), .ref (ad 26), .ref (ad 27), .int mst109, .int sus110, .ref (ad 28), .ref (ad 29), .ref (ad 30), .ref (ad 31), .int cut111])) := ⟨_, rfl⟩
            rw [← ec134] at hP hD
            have hI : IR g ad me ct133 := by rw [ec134]; exact upR hI (by decide) (i9_0 ⟨(bks97 : Int32), (lks98 : Int32), (gos99 : Int32), (shn100 : Int32), (tpd101 : Int32), (pl0102 : Int32), (ln0103 : Int32), (flt104 : Int32), (opn105 : Int32), (cmy106 : Int32), (x132 : Int32), (nm0108 : Int32), (mst109 : Int32), (sus110 : Int32), (cut111 : Int32), (by first | omega | decide), (by first | omega | decide), (by first | omega | decide), (by first | omega | decide), (by first | omega | decide), (by first | omega | decide), (by first | omega | decide), (by first | omega | decide), (by first | omega | decide), (by first | omega | decide), (by first | omega | decide), (by first | omega | decide), (by first | omega | decide), (by first | omega | decide), (by first | omega | decide), (by first | omega | decide), (by first | omega | decide), (by first | omega | decide), (by first | omega | decide), (by first | omega | decide), rfl⟩)
            have hs135 : ct133 13 = .inl (g.2 0, 120, .inl f77) := by rw [ec134, va_up_ne _ _ (by omega)]; exact hs95
            have hs136 : ct133 0 = .inr (9, [.int me, .ref (ad 1), .ref (ad 2), .ref (ad 3), .ref (ad 4), .int bks97, .int lks98, .int gos99, .int shn100, .ref (ad 5), .ref (ad 6), .ref (ad 7), .ref (ad 8), .ref (ad 9), .ref (ad 10), .ref (ad 11), .int tpd101, .int pl0102, .int ln0103, .int flt104, .int opn105, .int cmy106, .int x132, .int nm0108, .ref (ad 12), .ref (ad 13), .ref (ad 14), .ref (ad 15), .ref (ad 16), .ref (ad 17), .ref (ad 18), .ref (ad 19), .ref (ad 20), .ref (ad 21), .ref (ad 22), .ref (ad 23), .ref (ad 24), .ref (ad 25), .ref (ad 26), .ref (ad 27), .int mst109, .int sus110, .ref (ad 28), .ref (ad 29), .ref (ad 30), .ref (ad 31), .int cut111]) := by rw [ec134]; exact va_up_self _ _ _
            have z17_hs136 : zfi 17 (ct133 0) = (pl0102 : Int32).toInt := by rw [hs136]; rfl
            have z18_hs136 : zfi 18 (ct133 0) = (ln0103 : Int32).toInt := by rw [hs136]; rfl
            have z21_hs136 : zfi 21 (ct133 0) = (cmy106 : Int32).toInt := by rw [hs136]; rfl
            have z22_hs136 : zfi 22 (ct133 0) = (x132 : Int32).toInt := by rw [hs136]; rfl
            have hps2 := PS.op j2_0 (R2 := RC f0 W0) (r := r85) (by omega) (by omega) (by omega) (by omega) (wr_c hk93 rfl (by rw [ec134]; exact va_up_ne _ _ (by omega)) rfl (by have q0 : (0 : Int32).toInt = 0 := rfl; omega)) (hs135.trans hs76.symm) ((h86.resolve_left (by omega)).2) (by omega) (by omega) (fun fw W h t => h.pop t)
            refine lv_goto (tgt := 0) hx hb dX9_closesSums_56 (by decide) ?_
            exact ih0  ct133 _ _ ls (by omega) (by first | assumption | omega | decide) (by first | assumption | omega | decide) (by first | assumption | omega | decide) hI hP hD hS (lv_sub hl [0, 1] rfl)
          · skip
            have c84 : ¬ (r82.toInt = 2) := fun q => c84 ((z_eq rfl (by decide : (2 : Int32).toInt = 2)).mpr q)
            refine lv_aload_n hx hb dX9_closesSums_29 rfl (lv_at hl 0 rfl) ?_
            refine zc_i (va_runV (As := []) (rest := []) ⟨hx, hb, hml, hown, hg⟩ (k_X9_top l g ad me ct37  hI) (cwV 0 hg (z_gV mm_1262 mm_1264 mm_73 mm_117 mm_1265) rfl rfl rfl (by decide +kernel) ⟨Nat.le_of_ble_eq_true rfl, Nat.le_of_ble_eq_true rfl⟩) ⟨(zR.pre [.ref (ad 0)] hP hK hN).1, va_recv hK hP (ci := 9) (q0 := 0) rfl (zw_at (by omega) hs38), (zR.pre [.ref (ad 0)] hP hK hN).2⟩ rfl rfl hl.1 rfl (lv_room (Nat.le_of_ble_eq_true rfl)) dX9_closesSums_30 ⟨Nat.le_of_ble_eq_true rfl, Nat.le_of_ble_eq_true rfl⟩) (fun r137 hr137 => ?_)
            have h138 := hr137
            clear hr137
            replace h138 : (zfi 22 (ct37 0) = 0 ∧ r137.toInt = -1) ∨ (1 ≤ zfi 22 (ct37 0) ∧ zk (ct37 13) (zfi 22 (ct37 0) - 1) r137) := h138
            have hvr137 := PS.topv j2_0 ((h138.resolve_left (by omega)).2)
            refine lv_iconst (v := 3) hx hb dX9_closesSums_33 (by decide) ?_
            refine lv_icmp_ne (tgt := 59) hx hb dX9_closesSums_34 (by decide) (fun c139 => ?_) (fun c139 => ?_)
            · skip
              have c139 : ¬ (r137.toInt = 3) := fun q => c139 ((z_eq rfl (by decide : (3 : Int32).toInt = 3)).mpr q)
              exact W.vret hx hb hr (fun t ht hW => ⟨⟨(), rfl, trivial, ct37, by rw [ht]; exact hP, hD, hI, (by first | assumption | omega), (by first | assumption | omega), (PS.topR j2_0 (fun fw W h1 h2 h3 => ⟨h1, h2, fun q => by omega⟩))⟩, hS.F ht⟩) hS.2.2 dX9_closesSums_59
            · skip
              have c139 : r137.toInt = 3 := (z_eq rfl (by decide : (3 : Int32).toInt = 3)).mp c139
              refine lv_aload_n hx hb dX9_closesSums_37 rfl (lv_at hl 0 rfl) ?_
              refine lv_aload_n hx hb dX9_closesSums_38 rfl (lv_at hl 0 rfl) ?_
              refine zc_i (va_runV (As := []) (rest := [.ref (ad 0)]) ⟨hx, hb, hml, hown, hg⟩ (k_X9_top l g ad me ct37  hI) (cwV 0 hg (z_gV mm_1262 mm_1264 mm_73 mm_117 mm_1265) rfl rfl rfl (by decide +kernel) ⟨Nat.le_of_ble_eq_true rfl, Nat.le_of_ble_eq_true rfl⟩) ⟨(zR.pre [.ref (ad 0)] hP hK hN).1, va_recv hK hP (ci := 9) (q0 := 0) rfl (zw_at (by omega) hs38), (zR.pre [.ref (ad 0)] hP hK hN).2⟩ rfl rfl hl.1 rfl (lv_room (Nat.le_of_ble_eq_true rfl)) dX9_closesSums_39 ⟨Nat.le_of_ble_eq_true rfl, Nat.le_of_ble_eq_true rfl⟩) (fun r140 hr140 => ?_)
              have h141 := hr140
              clear hr140
              replace h141 : (zfi 22 (ct37 0) = 0 ∧ r140.toInt = -1) ∨ (1 ≤ zfi 22 (ct37 0) ∧ zk (ct37 13) (zfi 22 (ct37 0) - 1) r140) := h141
              have hvr140 := PS.topv j2_0 ((h141.resolve_left (by omega)).2)
              refine lv_iconst (v := 0) hx hb dX9_closesSums_42 (by decide) ?_
              have hFc := zw_free hD hS hA
              refine va_callv (va_runV (As := [.int r140, .int 0]) (rest := []) ⟨hx, hb, hml, hown, hg⟩ (k_X9_notes l g _ ad me ct37 r140 (0 : Int32) (by first | omega | decide) (by first | omega | decide) hI (by first | assumption | omega | decide)) (cwV 2 hg (z_gV mm_1248 mm_1250 mm_71 mm_117 mm_1251) rfl rfl rfl (by decide +kernel) ⟨Nat.le_of_ble_eq_true rfl, Nat.le_of_ble_eq_true rfl⟩) ⟨(zA.pre [.ref (ad 0), .int r140, .int 0] hP hK hD hN).1, va_recv hK hP (ci := 9) (q0 := 0) rfl (zw_at (by omega) hs38), (zA.pre [.ref (ad 0), .int r140, .int 0] hP hK hD hN).2⟩ rfl rfl hl.1 rfl (lv_room (Nat.le_of_ble_eq_true rfl)) dX9_closesSums_43 ⟨Nat.le_of_ble_eq_true rfl, Nat.le_of_ble_eq_true rfl⟩) hS (fun q _ h => hFc q h) hFc (fun _ t H1 locs ht hvm hr142 hB hz1 hk1 hS => ?_)
              obtain ⟨ct143, hP1, hD1, hI, hk144, hk145, hk146, hk147, hk148, hk149⟩ := hB
              rw [ht] at hP1
              have hD := hD1.weaken (fun _ _ _ h => hFc _ h)
              generalize H1 = H at hP1 hS ⊢
              have hP := hP1
              refine W.widen (k := 0) (n := 0) (Nat.le_refl _) (Nat.le_refl _) ?_
              have hs150 : ct143 13 = .inl (g.2 0, 120, .inl f77) := hk149.trans hs76
              refine lv_aload_n hx hb dX9_closesSums_46 rfl (lv_at hl 0 rfl) ?_
              refine lv_aload_n hx hb dX9_closesSums_47 rfl (lv_at hl 0 rfl) ?_
              obtain ⟨bks152, lks153, gos154, shn155, tpd156, pl0157, ln0158, flt159, opn160, cmy161, wtg162, nm0163, mst164, sus165, cut166, h167, h168, h169, h170, h171, h172, h173, h174, h175, h176, h177, h178, h179, h180, h181, h182, h183, h184, h185, h186, hs151⟩ := a9_0 hI.1
              have z17_hs151 : zfi 17 (ct143 0) = pl0157.toInt := by rw [hs151]; rfl
              have z18_hs151 : zfi 18 (ct143 0) = ln0158.toInt := by rw [hs151]; rfl
              have z21_hs151 : zfi 21 (ct143 0) = cmy161.toInt := by rw [hs151]; rfl
              have z22_hs151 : zfi 22 (ct143 0) = wtg162.toInt := by rw [hs151]; rfl
              refine va_get (D := g.1) (ci := 9) (v := .int wtg162) (C := RX9) (T := TX9) (N := 47) hx hb hg inG9 hown hK hP 0 (zw_at (by omega) hs151) rfl 22 (by decide) (hg _ mm_980) (fun _ h9 => h9) rfl dX9_closesSums_48 ?_
              refine lv_iconst (v := 1) hx hb dX9_closesSums_51 (by decide) ?_
              refine lv_isub hx hb dX9_closesSums_52 ?_
              refine lv_topi (fun x187 ex187 => ?_)
              have tx187 : x187.toInt = wtg162.toInt - 1 := by rw [ex187]; exact z_sub rfl (by decide : (1 : Int32).toInt = 1) (by omega) (by omega)
              refine va_put (D := g.1) (ci := 9) (v := .int x187) (ty := .int) (C := RX9) (T := TX9) (N := 47) hx hb hg inG9 tyX9 tyX9_ok nmX9 hown hK hP hD hS 0 (zw_at (by omega) hs151) rfl 22 (by decide) (hg _ mm_980) (fun _ h9 => h9) rfl (by decide +kernel) rfl rfl (Nat.le_of_ble_eq_true rfl) dX9_closesSums_53 (fun H locs hP hD hS => ?_)
              have hP : zP g ((zw 32 ad ct143).set 0 (ad 0, .inr (9, [.int me, .ref (ad 1), .ref (ad 2), .ref (ad 3), .ref (ad 4), .int bks152, .int lks153, .int gos154, .int shn155, .ref (ad 5), .ref (ad 6), .ref (ad 7), .ref (ad 8), .ref (ad 9), .ref (ad 10), .ref (ad 11), .int tpd156, .int pl0157, .int ln0158, .int flt159, .int opn160, .int cmy161, .int x187, .int nm0163, .ref (ad 12), .ref (ad 13), .ref (ad 14), .ref (ad 15), .ref (ad 16), .ref (ad 17), .ref (ad 18), .ref (ad 19), .ref (ad 20), .ref (ad 21), .ref (ad 22), .ref (ad 23), .ref (ad 24), .ref (ad 25), .ref (ad 26), .ref (ad 27), .int mst164, .int sus165, .ref (ad 28), .ref (ad 29), .ref (ad 30), .ref (ad 31), .int cut166]))) H := hP
              have hD : va_D A ((zw 32 ad ct143).set 0 (ad 0, .inr (9, [.int me, .ref (ad 1), .ref (ad 2), .ref (ad 3), .ref (ad 4), .int bks152, .int lks153, .int gos154, .int shn155, .ref (ad 5), .ref (ad 6), .ref (ad 7), .ref (ad 8), .ref (ad 9), .ref (ad 10), .ref (ad 11), .int tpd156, .int pl0157, .int ln0158, .int flt159, .int opn160, .int cmy161, .int x187, .int nm0163, .ref (ad 12), .ref (ad 13), .ref (ad 14), .ref (ad 15), .ref (ad 16), .ref (ad 17), .ref (ad 18), .ref (ad 19), .ref (ad 20), .ref (ad 21), .ref (ad 22), .ref (ad 23), .ref (ad 24), .ref (ad 25), .ref (ad 26), .ref (ad 27), .int mst164, .int sus165, .ref (ad 28), .ref (ad 29), .ref (ad 30), .ref (ad 31), .int cut166]))) := hD
              rw [zw_set (by omega)] at hP hD
              obtain ⟨ct188, ec189⟩ : ∃ z : Nat → va_E, z = va_up ct143 0 (.inr (9, [.int me, .ref (ad 1), .ref (ad 2), .ref (ad 3), .ref (ad 4), .int bks152, .int lks153, .int gos154, .int shn155, .ref (ad 5), .ref (ad 6), .ref (ad 7), .ref (ad 8), .ref (ad 9), .ref (ad 10), .ref (ad 11), .int tpd156, .int pl0157, .int ln0158, .int flt159, .int opn160, .int cmy161, .int x187, .int nm0163, .ref (ad 12), .ref (ad 13), .ref (ad 14), .ref (ad 15), .ref (ad 16), .ref (ad 17), .ref (ad 18), .ref (ad 19), .ref (ad 20), .ref (ad 21), .ref (ad 22), .ref (ad 23), .ref (ad 24), .ref (ad 25), .ref (ad 26), .ref (ad 27), .int mst164, .int sus165, .ref (ad 28), .ref (ad 29), .ref (ad 30), .ref (ad 31), .int cut166])) := ⟨_, rfl⟩
              rw [← ec189] at hP hD
              have hI : IR g ad me ct188 := by rw [ec189]; exact upR hI (by decide) (i9_0 ⟨(bks152 : Int32), (lks153 : Int32), (gos154 : Int32), (shn155 : Int32), (tpd156 : Int32), (pl0157 : Int32), (ln0158 : Int32), (flt159 : Int32), (opn160 : Int32), (cmy161 : Int32), (x187 : Int32), (nm0163 : Int32), (mst164 : Int32), (sus165 : Int32), (cut166 : Int32), (by first | omega | decide), (by first | omega | decide), (by first | omega | decide), (by first | omega | decide), (by first | omega | decide), (by first | omega | decide), (by first | omega | decide), (by first | omega | decide), (by first | omega | decide), (by first | omega | decide), (by first | omega | decide), (by first | omega | decide), (by first | omega | decide), (by first | omega | decide), (by first | omega | decide), (by first | omega | decide), (by first | omega | decide), (by first | omega | decide), (by first | omega | decide), (by first | omega | decide), rfl⟩)
              have hs190 : ct188 13 = .inl (g.2 0, 120, .inl f77) := by rw [ec189, va_up_ne _ _ (by omega)]; exact hs150
              have hs191 : ct188 0 = .inr (9, [.int me, .ref (ad 1), .ref (ad 2), .ref (ad 3), .ref (ad 4), .int bks152, .int lks153, .int gos154, .int shn155, .ref (ad 5), .ref (ad 6), .ref (ad 7), .ref (ad 8), .ref (ad 9), .ref (ad 10), .ref (ad 11), .int tpd156, .int pl0157, .int ln0158, .int flt159, .int opn160, .int cmy161, .int x187, .int nm0163, .ref (ad 12), .ref (ad 13), .ref (ad 14), .ref (ad 15), .ref (ad 16), .ref (ad 17), .ref (ad 18), .ref (ad 19), .ref (ad 20), .ref (ad 21), .ref (ad 22), .ref (ad 23), .ref (ad 24), .ref (ad 25), .ref (ad 26), .ref (ad 27), .int mst164, .int sus165, .ref (ad 28), .ref (ad 29), .ref (ad 30), .ref (ad 31), .int cut166]) := by rw [ec189]; exact va_up_self _ _ _
              have z17_hs191 : zfi 17 (ct188 0) = (pl0157 : Int32).toInt := by rw [hs191]; rfl
              have z18_hs191 : zfi 18 (ct188 0) = (ln0158 : Int32).toInt := by rw [hs191]; rfl
              have z21_hs191 : zfi 21 (ct188 0) = (cmy161 : Int32).toInt := by rw [hs191]; rfl
              have z22_hs191 : zfi 22 (ct188 0) = (x187 : Int32).toInt := by rw [hs191]; rfl
              have hps2 := PS.op j2_0 (R2 := RC f0 W0) (r := r140) (by omega) (by omega) (by omega) (by omega) (wr_c hk148 rfl (by rw [ec189]; exact va_up_ne _ _ (by omega)) rfl (by have q0 : (0 : Int32).toInt = 0 := rfl; omega)) (hs190.trans hs76.symm) ((h141.resolve_left (by omega)).2) (by omega) (by omega) (fun fw W h t => h.pop t)
              refine lv_goto (tgt := 0) hx hb dX9_closesSums_56 (by decide) ?_
              exact ih0  ct188 _ _ ls (by omega) (by first | assumption | omega | decide) (by first | assumption | omega | decide) (by first | assumption | omega | decide) hI hP hD hS (lv_sub hl [0, 1] rfl)
      · skip
        have c80 : ¬ (r78.toInt < 4) := fun q => c80 ((z_lt rfl (by decide : (4 : Int32).toInt = 4)).mpr q)
        refine lv_aload_n hx hb dX9_closesSums_8 rfl (lv_at hl 0 rfl) ?_
        refine zc_i (va_runV (As := []) (rest := []) ⟨hx, hb, hml, hown, hg⟩ (k_X9_top l g ad me ct37  hI) (cwV 0 hg (z_gV mm_1262 mm_1264 mm_73 mm_117 mm_1265) rfl rfl rfl (by decide +kernel) ⟨Nat.le_of_ble_eq_true rfl, Nat.le_of_ble_eq_true rfl⟩) ⟨(zR.pre [.ref (ad 0)] hP hK hN).1, va_recv hK hP (ci := 9) (q0 := 0) rfl (zw_at (by omega) hs38), (zR.pre [.ref (ad 0)] hP hK hN).2⟩ rfl rfl hl.1 rfl (lv_room (Nat.le_of_ble_eq_true rfl)) dX9_closesSums_9 ⟨Nat.le_of_ble_eq_true rfl, Nat.le_of_ble_eq_true rfl⟩) (fun r192 hr192 => ?_)
        have h193 := hr192
        clear hr192
        replace h193 : (zfi 22 (ct37 0) = 0 ∧ r192.toInt = -1) ∨ (1 ≤ zfi 22 (ct37 0) ∧ zk (ct37 13) (zfi 22 (ct37 0) - 1) r192) := h193
        have hvr192 := PS.topv j2_0 ((h193.resolve_left (by omega)).2)
        refine lv_bipush (v := 6) hx hb dX9_closesSums_12 (by decide) ?_
        refine lv_icmp_le (tgt := 37) hx hb dX9_closesSums_14 (by decide) (fun c194 => ?_) (fun c194 => ?_)
        · skip
          have c194 : r192.toInt ≤ 6 := (z_le rfl (by decide : (6 : Int32).toInt = 6)).mp c194
          refine lv_aload_n hx hb dX9_closesSums_37 rfl (lv_at hl 0 rfl) ?_
          refine lv_aload_n hx hb dX9_closesSums_38 rfl (lv_at hl 0 rfl) ?_
          refine zc_i (va_runV (As := []) (rest := [.ref (ad 0)]) ⟨hx, hb, hml, hown, hg⟩ (k_X9_top l g ad me ct37  hI) (cwV 0 hg (z_gV mm_1262 mm_1264 mm_73 mm_117 mm_1265) rfl rfl rfl (by decide +kernel) ⟨Nat.le_of_ble_eq_true rfl, Nat.le_of_ble_eq_true rfl⟩) ⟨(zR.pre [.ref (ad 0)] hP hK hN).1, va_recv hK hP (ci := 9) (q0 := 0) rfl (zw_at (by omega) hs38), (zR.pre [.ref (ad 0)] hP hK hN).2⟩ rfl rfl hl.1 rfl (lv_room (Nat.le_of_ble_eq_true rfl)) dX9_closesSums_39 ⟨Nat.le_of_ble_eq_true rfl, Nat.le_of_ble_eq_true rfl⟩) (fun r195 hr195 => ?_)
          have h196 := hr195
          clear hr195
          replace h196 : (zfi 22 (ct37 0) = 0 ∧ r195.toInt = -1) ∨ (1 ≤ zfi 22 (ct37 0) ∧ zk (ct37 13) (zfi 22 (ct37 0) - 1) r195) := h196
          have hvr195 := PS.topv j2_0 ((h196.resolve_left (by omega)).2)
          refine lv_iconst (v := 0) hx hb dX9_closesSums_42 (by decide) ?_
          have hFc := zw_free hD hS hA
          refine va_callv (va_runV (As := [.int r195, .int 0]) (rest := []) ⟨hx, hb, hml, hown, hg⟩ (k_X9_notes l g _ ad me ct37 r195 (0 : Int32) (by first | omega | decide) (by first | omega | decide) hI (by first | assumption | omega | decide)) (cwV 2 hg (z_gV mm_1248 mm_1250 mm_71 mm_117 mm_1251) rfl rfl rfl (by decide +kernel) ⟨Nat.le_of_ble_eq_true rfl, Nat.le_of_ble_eq_true rfl⟩) ⟨(zA.pre [.ref (ad 0), .int r195, .int 0] hP hK hD hN).1, va_recv hK hP (ci := 9) (q0 := 0) rfl (zw_at (by omega) hs38), (zA.pre [.ref (ad 0), .int r195, .int 0] hP hK hD hN).2⟩ rfl rfl hl.1 rfl (lv_room (Nat.le_of_ble_eq_true rfl)) dX9_closesSums_43 ⟨Nat.le_of_ble_eq_true rfl, Nat.le_of_ble_eq_true rfl⟩) hS (fun q _ h => hFc q h) hFc (fun _ t H1 locs ht hvm hr197 hB hz1 hk1 hS => ?_)
          obtain ⟨ct198, hP1, hD1, hI, hk199, hk200, hk201, hk202, hk203, hk204⟩ := hB
          rw [ht] at hP1
          have hD := hD1.weaken (fun _ _ _ h => hFc _ h)
          generalize H1 = H at hP1 hS ⊢
          have hP := hP1
          refine W.widen (k := 0) (n := 0) (Nat.le_refl _) (Nat.le_refl _) ?_
          have hs205 : ct198 13 = .inl (g.2 0, 120, .inl f77) := hk204.trans hs76
          refine lv_aload_n hx hb dX9_closesSums_46 rfl (lv_at hl 0 rfl) ?_
          refine lv_aload_n hx hb dX9_closesSums_47 rfl (lv_at hl 0 rfl) ?_
          obtain ⟨bks207, lks208, gos209, shn210, tpd211, pl0212, ln0213, flt214, opn215, cmy216, wtg217, nm0218, mst219, sus220, cut221, h222, h223, h224, h225, h226, h227, h228, h229, h230, h231, h232, h233, h234, h235, h236, h237, h238, h239, h240, h241, hs206⟩ := a9_0 hI.1
          have z17_hs206 : zfi 17 (ct198 0) = pl0212.toInt := by rw [hs206]; rfl
          have z18_hs206 : zfi 18 (ct198 0) = ln0213.toInt := by rw [hs206]; rfl
          have z21_hs206 : zfi 21 (ct198 0) = cmy216.toInt := by rw [hs206]; rfl
          have z22_hs206 : zfi 22 (ct198 0) = wtg217.toInt := by rw [hs206]; rfl
          refine va_get (D := g.1) (ci := 9) (v := .int wtg217) (C := RX9) (T := TX9) (N := 47) hx hb hg inG9 hown hK hP 0 (zw_at (by omega) hs206) rfl 22 (by decide) (hg _ mm_980) (fun _ h9 => h9) rfl dX9_closesSums_48 ?_
          refine lv_iconst (v := 1) hx hb dX9_closesSums_51 (by decide) ?_
          refine lv_isub hx hb dX9_closesSums_52 ?_
          refine lv_topi (fun x242 ex242 => ?_)
          have tx242 : x242.toInt = wtg217.toInt - 1 := by rw [ex242]; exact z_sub rfl (by decide : (1 : Int32).toInt = 1) (by omega) (by omega)
          refine va_put (D := g.1) (ci := 9) (v := .int x242) (ty := .int) (C := RX9) (T := TX9) (N := 47) hx hb hg inG9 tyX9 tyX9_ok nmX9 hown hK hP hD hS 0 (zw_at (by omega) hs206) rfl 22 (by decide) (hg _ mm_980) (fun _ h9 => h9) rfl (by decide +kernel) rfl rfl (Nat.le_of_ble_eq_true rfl) dX9_closesSums_53 (fun H locs hP hD hS => ?_)
          have hP : zP g ((zw 32 ad ct198).set 0 (ad 0, .inr (9, [.int me, .ref (ad 1), .ref (ad 2), .ref (ad 3), .ref (ad 4), .int bks207, .int lks208, .int gos209, .int shn210, .ref (ad 5), .ref (ad 6), .ref (ad 7), .ref (ad 8), .ref (ad 9), .ref (ad 10), .ref (ad 11), .int tpd211, .int pl0212, .int ln0213, .int flt214, .int opn215, .int cmy216, .int x242, .int nm0218, .ref (ad 12), .ref (ad 13), .ref (ad 14), .ref (ad 15), .ref (ad 16), .ref (ad 17), .ref (ad 18), .ref (ad 19), .ref (ad 20), .ref (ad 21), .ref (ad 22), .ref (ad 23), .ref (ad 24), .ref (ad 25), .ref (ad 26), .ref (ad 27), .int mst219, .int sus220, .ref (ad 28), .ref (ad 29), .ref (ad 30), .ref (ad 31), .int cut221]))) H := hP
          have hD : va_D A ((zw 32 ad ct198).set 0 (ad 0, .inr (9, [.int me, .ref (ad 1), .ref (ad 2), .ref (ad 3), .ref (ad 4), .int bks207, .int lks208, .int gos209, .int shn210, .ref (ad 5), .ref (ad 6), .ref (ad 7), .ref (ad 8), .ref (ad 9), .ref (ad 10), .ref (ad 11), .int tpd211, .int pl0212, .int ln0213, .int flt214, .int opn215, .int cmy216, .int x242, .int nm0218, .ref (ad 12), .ref (ad 13), .ref (ad 14), .ref (ad 15), .ref (ad 16), .ref (ad 17), .ref (ad 18), .ref (ad 19), .ref (ad 20), .ref (ad 21), .ref (ad 22), .ref (ad 23), .ref (ad 24), .ref (ad 25), .ref (ad 26), .ref (ad 27), .int mst219, .int sus220, .ref (ad 28), .ref (ad 29), .ref (ad 30), .ref (ad 31), .int cut221]))) := hD
          rw [zw_set (by omega)] at hP hD
          obtain ⟨ct243, ec244⟩ : ∃ z : Nat → va_E, z = va_up ct198 0 (.inr (9, [.int me, .ref (ad 1), .ref (ad 2), .ref (ad 3), .ref (ad 4), .int bks207, .int lks208, .int gos209, .int shn210, .ref (ad 5), .ref (ad 6), .ref (ad 7), .ref (ad 8), .ref (ad 9), .ref (ad 10), .ref (ad 11), .int tpd211, .int pl0212, .int ln0213, .int flt214, .int opn215, .int cmy216, .int x242, .int nm0218, .ref (ad 12), .ref (ad 13), .ref (ad 14), .ref (ad 15), .ref (ad 16), .ref (ad 17), .ref (ad 18), .ref (ad 19), .ref (ad 20), .ref (ad 21), .ref (ad 22), .ref (ad 23), .ref (ad 24), .ref (ad 25), .ref (ad 26), .ref (ad 27), .int mst219, .int sus220, .ref (ad 28), .ref (ad 29), .ref (ad 30), .ref (ad 31), .int cut221])) := ⟨_, rfl⟩
          rw [← ec244] at hP hD
          have hI : IR g ad me ct243 := by rw [ec244]; exact upR hI (by decide) (i9_0 ⟨(bks207 : Int32), (lks208 : Int32), (gos209 : Int32), (shn210 : Int32), (tpd211 : Int32), (pl0212 : Int32), (ln0213 : Int32), (flt214 : Int32), (opn215 : Int32), (cmy216 : Int32), (x242 : Int32), (nm0218 : Int32), (mst219 : Int32), (sus220 : Int32), (cut221 : Int32), (by first | omega | decide), (by first | omega | decide), (by first | omega | decide), (by first | omega | decide), (by first | omega | decide), (by first | omega | decide), (by first | omega | decide), (by first | omega | decide), (by first | omega | decide), (by first | omega | decide), (by first | omega | decide), (by first | omega | decide), (by first | omega | decide), (by first | omega | decide), (by first | omega | decide), (by first | omega | decide), (by first | omega | decide), (by first | omega | decide), (by first | omega | decide), (by first | omega | decide), rfl⟩)
          have hs245 : ct243 13 = .inl (g.2 0, 120, .inl f77) := by rw [ec244, va_up_ne _ _ (by omega)]; exact hs205
          have hs246 : ct243 0 = .inr (9, [.int me, .ref (ad 1), .ref (ad 2), .ref (ad 3), .ref (ad 4), .int bks207, .int lks208, .int gos209, .int shn210, .ref (ad 5), .ref (ad 6), .ref (ad 7), .ref (ad 8), .ref (ad 9), .ref (ad 10), .ref (ad 11), .int tpd211, .int pl0212, .int ln0213, .int flt214, .int opn215, .int cmy216, .int x242, .int nm0218, .ref (ad 12), .ref (ad 13), .ref (ad 14), .ref (ad 15), .ref (ad 16), .ref (ad 17), .ref (ad 18), .ref (ad 19), .ref (ad 20), .ref (ad 21), .ref (ad 22), .ref (ad 23), .ref (ad 24), .ref (ad 25), .ref (ad 26), .ref (ad 27), .int mst219, .int sus220, .ref (ad 28), .ref (ad 29), .ref (ad 30), .ref (ad 31), .int cut221]) := by rw [ec244]; exact va_up_self _ _ _
          have z17_hs246 : zfi 17 (ct243 0) = (pl0212 : Int32).toInt := by rw [hs246]; rfl
          have z18_hs246 : zfi 18 (ct243 0) = (ln0213 : Int32).toInt := by rw [hs246]; rfl
          have z21_hs246 : zfi 21 (ct243 0) = (cmy216 : Int32).toInt := by rw [hs246]; rfl
          have z22_hs246 : zfi 22 (ct243 0) = (x242 : Int32).toInt := by rw [hs246]; rfl
          have hps2 := PS.op j2_0 (R2 := RC f0 W0) (r := r195) (by omega) (by omega) (by omega) (by omega) (wr_c hk203 rfl (by rw [ec244]; exact va_up_ne _ _ (by omega)) rfl (by have q0 : (0 : Int32).toInt = 0 := rfl; omega)) (hs245.trans hs76.symm) ((h196.resolve_left (by omega)).2) (by omega) (by omega) (fun fw W h t => h.pop t)
          refine lv_goto (tgt := 0) hx hb dX9_closesSums_56 (by decide) ?_
          exact ih0  ct243 _ _ ls (by omega) (by first | assumption | omega | decide) (by first | assumption | omega | decide) (by first | assumption | omega | decide) hI hP hD hS (lv_sub hl [0, 1] rfl)
        · skip
          have c194 : ¬ (r192.toInt ≤ 6) := fun q => c194 ((z_le rfl (by decide : (6 : Int32).toInt = 6)).mpr q)
          refine lv_iload_n hx hb dX9_closesSums_17 rfl (lv_at hl 1 rfl) ?_
          refine lv_if_eq (tgt := 59) hx hb dX9_closesSums_18 (by decide) (fun c247 => ?_) (fun c247 => ?_)
          · skip
            have c247 : al.toInt = 0 := (z_eq rfl (by decide : (0 : Int32).toInt = 0)).mp c247
            exact W.vret hx hb hr (fun t ht hW => ⟨⟨(), rfl, trivial, ct37, by rw [ht]; exact hP, hD, hI, (by first | assumption | omega), (by first | assumption | omega), (PS.topR j2_0 (fun fw W h1 h2 h3 => ⟨h1, h2, fun q => by omega⟩))⟩, hS.F ht⟩) hS.2.2 dX9_closesSums_59
          · skip
            have c247 : ¬ (al.toInt = 0) := fun q => c247 ((z_eq rfl (by decide : (0 : Int32).toInt = 0)).mpr q)
            refine lv_aload_n hx hb dX9_closesSums_21 rfl (lv_at hl 0 rfl) ?_
            refine zc_i (va_runV (As := []) (rest := []) ⟨hx, hb, hml, hown, hg⟩ (k_X9_top l g ad me ct37  hI) (cwV 0 hg (z_gV mm_1262 mm_1264 mm_73 mm_117 mm_1265) rfl rfl rfl (by decide +kernel) ⟨Nat.le_of_ble_eq_true rfl, Nat.le_of_ble_eq_true rfl⟩) ⟨(zR.pre [.ref (ad 0)] hP hK hN).1, va_recv hK hP (ci := 9) (q0 := 0) rfl (zw_at (by omega) hs38), (zR.pre [.ref (ad 0)] hP hK hN).2⟩ rfl rfl hl.1 rfl (lv_room (Nat.le_of_ble_eq_true rfl)) dX9_closesSums_22 ⟨Nat.le_of_ble_eq_true rfl, Nat.le_of_ble_eq_true rfl⟩) (fun r248 hr248 => ?_)
            have h249 := hr248
            clear hr248
            replace h249 : (zfi 22 (ct37 0) = 0 ∧ r248.toInt = -1) ∨ (1 ≤ zfi 22 (ct37 0) ∧ zk (ct37 13) (zfi 22 (ct37 0) - 1) r248) := h249
            have hvr248 := PS.topv j2_0 ((h249.resolve_left (by omega)).2)
            refine lv_iconst (v := 2) hx hb dX9_closesSums_25 (by decide) ?_
            refine lv_icmp_eq (tgt := 37) hx hb dX9_closesSums_26 (by decide) (fun c250 => ?_) (fun c250 => ?_)
            · skip
              have c250 : r248.toInt = 2 := (z_eq rfl (by decide : (2 : Int32).toInt = 2)).mp c250
              refine lv_aload_n hx hb dX9_closesSums_37 rfl (lv_at hl 0 rfl) ?_
              refine lv_aload_n hx hb dX9_closesSums_38 rfl (lv_at hl 0 rfl) ?_
              refine zc_i (va_runV (As := []) (rest := [.ref (ad 0)]) ⟨hx, hb, hml, hown, hg⟩ (k_X9_top l g ad me ct37  hI) (cwV 0 hg (z_gV mm_1262 mm_1264 mm_73 mm_117 mm_1265) rfl rfl rfl (by decide +kernel) ⟨Nat.le_of_ble_eq_true rfl, Nat.le_of_ble_eq_true rfl⟩) ⟨(zR.pre [.ref (ad 0)] hP hK hN).1, va_recv hK hP (ci := 9) (q0 := 0) rfl (zw_at (by omega) hs38), (zR.pre [.ref (ad 0)] hP hK hN).2⟩ rfl rfl hl.1 rfl (lv_room (Nat.le_of_ble_eq_true rfl)) dX9_closesSums_39 ⟨Nat.le_of_ble_eq_true rfl, Nat.le_of_ble_eq_true rfl⟩) (fun r251 hr251 => ?_)
              have h252 := hr251
              clear hr251
              replace h252 : (zfi 22 (ct37 0) = 0 ∧ r251.toInt = -1) ∨ (1 ≤ zfi 22 (ct37 0) ∧ zk (ct37 13) (zfi 22 (ct37 0) - 1) r251) := h252
              have hvr251 := PS.topv j2_0 ((h252.resolve_left (by omega)).2)
              refine lv_iconst (v := 0) hx hb dX9_closesSums_42 (by decide) ?_
              have hFc := zw_free hD hS hA
              refine va_callv (va_runV (As := [.int r251, .int 0]) (rest := []) ⟨hx, hb, hml, hown, hg⟩ (k_X9_notes l g _ ad me ct37 r251 (0 : Int32) (by first | omega | decide) (by first | omega | decide) hI (by first | assumption | omega | decide)) (cwV 2 hg (z_gV mm_1248 mm_1250 mm_71 mm_117 mm_1251) rfl rfl rfl (by decide +kernel) ⟨Nat.le_of_ble_eq_true rfl, Nat.le_of_ble_eq_true rfl⟩) ⟨(zA.pre [.ref (ad 0), .int r251, .int 0] hP hK hD hN).1, va_recv hK hP (ci := 9) (q0 := 0) rfl (zw_at (by omega) hs38), (zA.pre [.ref (ad 0), .int r251, .int 0] hP hK hD hN).2⟩ rfl rfl hl.1 rfl (lv_room (Nat.le_of_ble_eq_true rfl)) dX9_closesSums_43 ⟨Nat.le_of_ble_eq_true rfl, Nat.le_of_ble_eq_true rfl⟩) hS (fun q _ h => hFc q h) hFc (fun _ t H1 locs ht hvm hr253 hB hz1 hk1 hS => ?_)
              obtain ⟨ct254, hP1, hD1, hI, hk255, hk256, hk257, hk258, hk259, hk260⟩ := hB
              rw [ht] at hP1
              have hD := hD1.weaken (fun _ _ _ h => hFc _ h)
              generalize H1 = H at hP1 hS ⊢
              have hP := hP1
              refine W.widen (k := 0) (n := 0) (Nat.le_refl _) (Nat.le_refl _) ?_
              have hs261 : ct254 13 = .inl (g.2 0, 120, .inl f77) := hk260.trans hs76
              refine lv_aload_n hx hb dX9_closesSums_46 rfl (lv_at hl 0 rfl) ?_
              refine lv_aload_n hx hb dX9_closesSums_47 rfl (lv_at hl 0 rfl) ?_
              obtain ⟨bks263, lks264, gos265, shn266, tpd267, pl0268, ln0269, flt270, opn271, cmy272, wtg273, nm0274, mst275, sus276, cut277, h278, h279, h280, h281, h282, h283, h284, h285, h286, h287, h288, h289, h290, h291, h292, h293, h294, h295, h296, h297, hs262⟩ := a9_0 hI.1
              have z17_hs262 : zfi 17 (ct254 0) = pl0268.toInt := by rw [hs262]; rfl
              have z18_hs262 : zfi 18 (ct254 0) = ln0269.toInt := by rw [hs262]; rfl
              have z21_hs262 : zfi 21 (ct254 0) = cmy272.toInt := by rw [hs262]; rfl
              have z22_hs262 : zfi 22 (ct254 0) = wtg273.toInt := by rw [hs262]; rfl
              refine va_get (D := g.1) (ci := 9) (v := .int wtg273) (C := RX9) (T := TX9) (N := 47) hx hb hg inG9 hown hK hP 0 (zw_at (by omega) hs262) rfl 22 (by decide) (hg _ mm_980) (fun _ h9 => h9) rfl dX9_closesSums_48 ?_
              refine lv_iconst (v := 1) hx hb dX9_closesSums_51 (by decide) ?_
              refine lv_isub hx hb dX9_closesSums_52 ?_
              refine lv_topi (fun x298 ex298 => ?_)
              have tx298 : x298.toInt = wtg273.toInt - 1 := by rw [ex298]; exact z_sub rfl (by decide : (1 : Int32).toInt = 1) (by omega) (by omega)
              refine va_put (D := g.1) (ci := 9) (v := .int x298) (ty := .int) (C := RX9) (T := TX9) (N := 47) hx hb hg inG9 tyX9 tyX9_ok nmX9 hown hK hP hD hS 0 (zw_at (by omega) hs262) rfl 22 (by decide) (hg _ mm_980) (fun _ h9 => h9) rfl (by decide +kernel) rfl rfl (Nat.le_of_ble_eq_true rfl) dX9_closesSums_53 (fun H locs hP hD hS => ?_)
              have hP : zP g ((zw 32 ad ct254).set 0 (ad 0, .inr (9, [.int me, .ref (ad 1), .ref (ad 2), .ref (ad 3), .ref (ad 4), .int bks263, .int lks264, .int gos265, .int shn266, .ref (ad 5), .ref (ad 6), .ref (ad 7), .ref (ad 8), .ref (ad 9), .ref (ad 10), .ref (ad 11), .int tpd267, .int pl0268, .int ln0269, .int flt270, .int opn271, .int cmy272, .int x298, .int nm0274, .ref (ad 12), .ref (ad 13), .ref (ad 14), .ref (ad 15), .ref (ad 16), .ref (ad 17), .ref (ad 18), .ref (ad 19), .ref (ad 20), .ref (ad 21), .ref (ad 22), .ref (ad 23), .ref (ad 24), .ref (ad 25), .ref (ad 26), .ref (ad 27), .int mst275, .int sus276, .ref (ad 28), .ref (ad 29), .ref (ad 30), .ref (ad 31), .int cut277]))) H := hP
              have hD : va_D A ((zw 32 ad ct254).set 0 (ad 0, .inr (9, [.int me, .ref (ad 1), .ref (ad 2), .ref (ad 3), .ref (ad 4), .int bks263, .int lks264, .int gos265, .int shn266, .ref (ad 5), .ref (ad 6), .ref (ad 7), .ref (ad 8), .ref (ad 9), .ref (ad 10), .ref (ad 11), .int tpd267, .int pl0268, .int ln0269, .int flt270, .int opn271, .int cmy272, .int x298, .int nm0274, .ref (ad 12), .ref (ad 13), .ref (ad 14), .ref (ad 15), .ref (ad 16), .ref (ad 17), .ref (ad 18), .ref (ad 19), .ref (ad 20), .ref (ad 21), .ref (ad 22), .ref (ad 23), .ref (ad 24), .ref (ad 25), .ref (ad 26), .ref (ad 27), .int mst275, .int sus276, .ref (ad 28), .ref (ad 29), .ref (ad 30), .ref (ad 31), .int cut277]))) := hD
              rw [zw_set (by omega)] at hP hD
              obtain ⟨ct299, ec300⟩ : ∃ z : Nat → va_E, z = va_up ct254 0 (.inr (9, [.int me, .ref (ad 1), .ref (ad 2), .ref (ad 3), .ref (ad 4), .int bks263, .int lks264, .int gos265, .int shn266, .ref (ad 5), .ref (ad 6), .ref (ad 7), .ref (ad 8), .ref (ad 9), .ref (ad 10), .ref (ad 11), .int tpd267, .int pl0268, .int ln0269, .int flt270, .int opn271, .int cmy272, .int x298, .int nm0274, .ref (ad 12), .ref (ad 13), .ref (ad 14), .ref (ad 15), .ref (ad 16), .ref (ad 17), .ref (ad 18), .ref (ad 19), .ref (ad 20), .ref (ad 21), .ref (ad 22), .ref (ad 23), .ref (ad 24), .ref (ad 25), .ref (ad 26), .ref (ad 27), .int mst275, .int sus276, .ref (ad 28), .ref (ad 29), .ref (ad 30), .ref (ad 31), .int cut277])) := ⟨_, rfl⟩
              rw [← ec300] at hP hD
              have hI : IR g ad me ct299 := by rw [ec300]; exact upR hI (by decide) (i9_0 ⟨(bks263 : Int32), (lks264 : Int32), (gos265 : Int32), (shn266 : Int32), (tpd267 : Int32), (pl0268 : Int32), (ln0269 : Int32), (flt270 : Int32), (opn271 : Int32), (cmy272 : Int32), (x298 : Int32), (nm0274 : Int32), (mst275 : Int32), (sus276 : Int32), (cut277 : Int32), (by first | omega | decide), (by first | omega | decide), (by first | omega | decide), (by first | omega | decide), (by first | omega | decide), (by first | omega | decide), (by first | omega | decide), (by first | omega | decide), (by first | omega | decide), (by first | omega | decide), (by first | omega | decide), (by first | omega | decide), (by first | omega | decide), (by first | omega | decide), (by first | omega | decide), (by first | omega | decide), (by first | omega | decide), (by first | omega | decide), (by first | omega | decide), (by first | omega | decide), rfl⟩)
              have hs301 : ct299 13 = .inl (g.2 0, 120, .inl f77) := by rw [ec300, va_up_ne _ _ (by omega)]; exact hs261
              have hs302 : ct299 0 = .inr (9, [.int me, .ref (ad 1), .ref (ad 2), .ref (ad 3), .ref (ad 4), .int bks263, .int lks264, .int gos265, .int shn266, .ref (ad 5), .ref (ad 6), .ref (ad 7), .ref (ad 8), .ref (ad 9), .ref (ad 10), .ref (ad 11), .int tpd267, .int pl0268, .int ln0269, .int flt270, .int opn271, .int cmy272, .int x298, .int nm0274, .ref (ad 12), .ref (ad 13), .ref (ad 14), .ref (ad 15), .ref (ad 16), .ref (ad 17), .ref (ad 18), .ref (ad 19), .ref (ad 20), .ref (ad 21), .ref (ad 22), .ref (ad 23), .ref (ad 24), .ref (ad 25), .ref (ad 26), .ref (ad 27), .int mst275, .int sus276, .ref (ad 28), .ref (ad 29), .ref (ad 30), .ref (ad 31), .int cut277]) := by rw [ec300]; exact va_up_self _ _ _
              have z17_hs302 : zfi 17 (ct299 0) = (pl0268 : Int32).toInt := by rw [hs302]; rfl
              have z18_hs302 : zfi 18 (ct299 0) = (ln0269 : Int32).toInt := by rw [hs302]; rfl
              have z21_hs302 : zfi 21 (ct299 0) = (cmy272 : Int32).toInt := by rw [hs302]; rfl
              have z22_hs302 : zfi 22 (ct299 0) = (x298 : Int32).toInt := by rw [hs302]; rfl
              have hps2 := PS.op j2_0 (R2 := RC f0 W0) (r := r251) (by omega) (by omega) (by omega) (by omega) (wr_c hk259 rfl (by rw [ec300]; exact va_up_ne _ _ (by omega)) rfl (by have q0 : (0 : Int32).toInt = 0 := rfl; omega)) (hs301.trans hs76.symm) ((h252.resolve_left (by omega)).2) (by omega) (by omega) (fun fw W h t => h.pop t)
              refine lv_goto (tgt := 0) hx hb dX9_closesSums_56 (by decide) ?_
              exact ih0  ct299 _ _ ls (by omega) (by first | assumption | omega | decide) (by first | assumption | omega | decide) (by first | assumption | omega | decide) hI hP hD hS (lv_sub hl [0, 1] rfl)
            · skip
              have c250 : ¬ (r248.toInt = 2) := fun q => c250 ((z_eq rfl (by decide : (2 : Int32).toInt = 2)).mpr q)
              refine lv_aload_n hx hb dX9_closesSums_29 rfl (lv_at hl 0 rfl) ?_
              refine zc_i (va_runV (As := []) (rest := []) ⟨hx, hb, hml, hown, hg⟩ (k_X9_top l g ad me ct37  hI) (cwV 0 hg (z_gV mm_1262 mm_1264 mm_73 mm_117 mm_1265) rfl rfl rfl (by decide +kernel) ⟨Nat.le_of_ble_eq_true rfl, Nat.le_of_ble_eq_true rfl⟩) ⟨(zR.pre [.ref (ad 0)] hP hK hN).1, va_recv hK hP (ci := 9) (q0 := 0) rfl (zw_at (by omega) hs38), (zR.pre [.ref (ad 0)] hP hK hN).2⟩ rfl rfl hl.1 rfl (lv_room (Nat.le_of_ble_eq_true rfl)) dX9_closesSums_30 ⟨Nat.le_of_ble_eq_true rfl, Nat.le_of_ble_eq_true rfl⟩) (fun r303 hr303 => ?_)
              have h304 := hr303
              clear hr303
              replace h304 : (zfi 22 (ct37 0) = 0 ∧ r303.toInt = -1) ∨ (1 ≤ zfi 22 (ct37 0) ∧ zk (ct37 13) (zfi 22 (ct37 0) - 1) r303) := h304
              have hvr303 := PS.topv j2_0 ((h304.resolve_left (by omega)).2)
              refine lv_iconst (v := 3) hx hb dX9_closesSums_33 (by decide) ?_
              refine lv_icmp_ne (tgt := 59) hx hb dX9_closesSums_34 (by decide) (fun c305 => ?_) (fun c305 => ?_)
              · skip
                have c305 : ¬ (r303.toInt = 3) := fun q => c305 ((z_eq rfl (by decide : (3 : Int32).toInt = 3)).mpr q)
                exact W.vret hx hb hr (fun t ht hW => ⟨⟨(), rfl, trivial, ct37, by rw [ht]; exact hP, hD, hI, (by first | assumption | omega), (by first | assumption | omega), (PS.topR j2_0 (fun fw W h1 h2 h3 => ⟨h1, h2, fun q => by omega⟩))⟩, hS.F ht⟩) hS.2.2 dX9_closesSums_59
              · skip
                have c305 : r303.toInt = 3 := (z_eq rfl (by decide : (3 : Int32).toInt = 3)).mp c305
                refine lv_aload_n hx hb dX9_closesSums_37 rfl (lv_at hl 0 rfl) ?_
                refine lv_aload_n hx hb dX9_closesSums_38 rfl (lv_at hl 0 rfl) ?_
                refine zc_i (va_runV (As := []) (rest := [.ref (ad 0)]) ⟨hx, hb, hml, hown, hg⟩ (k_X9_top l g ad me ct37  hI) (cwV 0 hg (z_gV mm_1262 mm_1264 mm_73 mm_117 mm_1265) rfl rfl rfl (by decide +kernel) ⟨Nat.le_of_ble_eq_true rfl, Nat.le_of_ble_eq_true rfl⟩) ⟨(zR.pre [.ref (ad 0)] hP hK hN).1, va_recv hK hP (ci := 9) (q0 := 0) rfl (zw_at (by omega) hs38), (zR.pre [.ref (ad 0)] hP hK hN).2⟩ rfl rfl hl.1 rfl (lv_room (Nat.le_of_ble_eq_true rfl)) dX9_closesSums_39 ⟨Nat.le_of_ble_eq_true rfl, Nat.le_of_ble_eq_true rfl⟩) (fun r306 hr306 => ?_)
                have h307 := hr306
                clear hr306
                replace h307 : (zfi 22 (ct37 0) = 0 ∧ r306.toInt = -1) ∨ (1 ≤ zfi 22 (ct37 0) ∧ zk (ct37 13) (zfi 22 (ct37 0) - 1) r306) := h307
                have hvr306 := PS.topv j2_0 ((h307.resolve_left (by omega)).2)
                refine lv_iconst (v := 0) hx hb dX9_closesSums_42 (by decide) ?_
                have hFc := zw_free hD hS hA
                refine va_callv (va_runV (As := [.int r306, .int 0]) (rest := []) ⟨hx, hb, hml, hown, hg⟩ (k_X9_notes l g _ ad me ct37 r306 (0 : Int32) (by first | omega | decide) (by first | omega | decide) hI (by first | assumption | omega | decide)) (cwV 2 hg (z_gV mm_1248 mm_1250 mm_71 mm_117 mm_1251) rfl rfl rfl (by decide +kernel) ⟨Nat.le_of_ble_eq_true rfl, Nat.le_of_ble_eq_true rfl⟩) ⟨(zA.pre [.ref (ad 0), .int r306, .int 0] hP hK hD hN).1, va_recv hK hP (ci := 9) (q0 := 0) rfl (zw_at (by omega) hs38), (zA.pre [.ref (ad 0), .int r306, .int 0] hP hK hD hN).2⟩ rfl rfl hl.1 rfl (lv_room (Nat.le_of_ble_eq_true rfl)) dX9_closesSums_43 ⟨Nat.le_of_ble_eq_true rfl, Nat.le_of_ble_eq_true rfl⟩) hS (fun q _ h => hFc q h) hFc (fun _ t H1 locs ht hvm hr308 hB hz1 hk1 hS => ?_)
                obtain ⟨ct309, hP1, hD1, hI, hk310, hk311, hk312, hk313, hk314, hk315⟩ := hB
                rw [ht] at hP1
                have hD := hD1.weaken (fun _ _ _ h => hFc _ h)
                generalize H1 = H at hP1 hS ⊢
                have hP := hP1
                refine W.widen (k := 0) (n := 0) (Nat.le_refl _) (Nat.le_refl _) ?_
                have hs316 : ct309 13 = .inl (g.2 0, 120, .inl f77) := hk315.trans hs76
                refine lv_aload_n hx hb dX9_closesSums_46 rfl (lv_at hl 0 rfl) ?_
                refine lv_aload_n hx hb dX9_closesSums_47 rfl (lv_at hl 0 rfl) ?_
                obtain ⟨bks318, lks319, gos320, shn321, tpd322, pl0323, ln0324, flt325, opn326, cmy327, wtg328, nm0329, mst330, sus331, cut332, h333, h334, h335, h336, h337, h338, h339, h340, h341, h342, h343, h344, h345, h346, h347, h348, h349, h350, h351, h352, hs317⟩ := a9_0 hI.1
                have z17_hs317 : zfi 17 (ct309 0) = pl0323.toInt := by rw [hs317]; rfl
                have z18_hs317 : zfi 18 (ct309 0) = ln0324.toInt := by rw [hs317]; rfl
                have z21_hs317 : zfi 21 (ct309 0) = cmy327.toInt := by rw [hs317]; rfl
                have z22_hs317 : zfi 22 (ct309 0) = wtg328.toInt := by rw [hs317]; rfl
                refine va_get (D := g.1) (ci := 9) (v := .int wtg328) (C := RX9) (T := TX9) (N := 47) hx hb hg inG9 hown hK hP 0 (zw_at (by omega) hs317) rfl 22 (by decide) (hg _ mm_980) (fun _ h9 => h9) rfl dX9_closesSums_48 ?_
                refine lv_iconst (v := 1) hx hb dX9_closesSums_51 (by decide) ?_
                refine lv_isub hx hb dX9_closesSums_52 ?_
                refine lv_topi (fun x353 ex353 => ?_)
                have tx353 : x353.toInt = wtg328.toInt - 1 := by rw [ex353]; exact z_sub rfl (by decide : (1 : Int32).toInt = 1) (by omega) (by omega)
                refine va_put (D := g.1) (ci := 9) (v := .int x353) (ty := .int) (C := RX9) (T := TX9) (N := 47) hx hb hg inG9 tyX9 tyX9_ok nmX9 hown hK hP hD hS 0 (zw_at (by omega) hs317) rfl 22 (by decide) (hg _ mm_980) (fun _ h9 => h9) rfl (by decide +kernel) rfl rfl (Nat.le_of_ble_eq_true rfl) dX9_closesSums_53 (fun H locs hP hD hS => ?_)
                have hP : zP g ((zw 32 ad ct309).set 0 (ad 0, .inr (9, [.int me, .ref (ad 1), .ref (ad 2), .ref (ad 3), .ref (ad 4), .int bks318, .int lks319, .int gos320, .int shn321, .ref (ad 5), .ref (ad 6), .ref (ad 7), .ref (ad 8), .ref (ad 9), .ref (ad 10), .ref (ad 11), .int tpd322, .int pl0323, .int ln0324, .int flt325, .int opn326, .int cmy327, .int x353, .int nm0329, .ref (ad 12), .ref (ad 13), .ref (ad 14), .ref (ad 15), .ref (ad 16), .ref (ad 17), .ref (ad 18), .ref (ad 19), .ref (ad 20), .ref (ad 21), .ref (ad 22), .ref (ad 23), .ref (ad 24), .ref (ad 25), .ref (ad 26), .ref (ad 27), .int mst330, .int sus331, .ref (ad 28), .ref (ad 29), .ref (ad 30), .ref (ad 31), .int cut332]))) H := hP
                have hD : va_D A ((zw 32 ad ct309).set 0 (ad 0, .inr (9, [.int me, .ref (ad 1), .ref (ad 2), .ref (ad 3), .ref (ad 4), .int bks318, .int lks319, .int gos320, .int shn321, .ref (ad 5), .ref (ad 6), .ref (ad 7), .ref (ad 8), .ref (ad 9), .ref (ad 10), .ref (ad 11), .int tpd322, .int pl0323, .int ln0324, .int flt325, .int opn326, .int cmy327, .int x353, .int nm0329, .ref (ad 12), .ref (ad 13), .ref (ad 14), .ref (ad 15), .ref (ad 16), .ref (ad 17), .ref (ad 18), .ref (ad 19), .ref (ad 20), .ref (ad 21), .ref (ad 22), .ref (ad 23), .ref (ad 24), .ref (ad 25), .ref (ad 26), .ref (ad 27), .int mst330, .int sus331, .ref (ad 28), .ref (ad 29), .ref (ad 30), .ref (ad 31), .int cut332]))) := hD
                rw [zw_set (by omega)] at hP hD
                obtain ⟨ct354, ec355⟩ : ∃ z : Nat → va_E, z = va_up ct309 0 (.inr (9, [.int me, .ref (ad 1), .ref (ad 2), .ref (ad 3), .ref (ad 4), .int bks318, .int lks319, .int gos320, .int shn321, .ref (ad 5), .ref (ad 6), .ref (ad 7), .ref (ad 8), .ref (ad 9), .ref (ad 10), .ref (ad 11), .int tpd322, .int pl0323, .int ln0324, .int flt325, .int opn326, .int cmy327, .int x353, .int nm0329, .ref (ad 12), .ref (ad 13), .ref (ad 14), .ref (ad 15), .ref (ad 16), .ref (ad 17), .ref (ad 18), .ref (ad 19), .ref (ad 20), .ref (ad 21), .ref (ad 22), .ref (ad 23), .ref (ad 24), .ref (ad 25), .ref (ad 26), .ref (ad 27), .int mst330, .int sus331, .ref (ad 28), .ref (ad 29), .ref (ad 30), .ref (ad 31), .int cut332])) := ⟨_, rfl⟩
                rw [← ec355] at hP hD
                have hI : IR g ad me ct354 := by rw [ec355]; exact upR hI (by decide) (i9_0 ⟨(bks318 : Int32), (lks319 : Int32), (gos320 : Int32), (shn321 : Int32), (tpd322 : Int32), (pl0323 : Int32), (ln0324 : Int32), (flt325 : Int32), (opn326 : Int32), (cmy327 : Int32), (x353 : Int32), (nm0329 : Int32), (mst330 : Int32), (sus331 : Int32), (cut332 : Int32), (by first | omega | decide), (by first | omega | decide), (by first | omega | decide), (by first | omega | decide), (by first | omega | decide), (by first | omega | decide), (by first | omega | decide), (by first | omega | decide), (by first | omega | decide), (by first | omega | decide), (by first | omega | decide), (by first | omega | decide), (by first | omega | decide), (by first | omega | decide), (by first | omega | decide), (by first | omega | decide), (by first | omega | decide), (by first | omega | decide), (by first | omega | decide), (by first | omega | decide), rfl⟩)
                have hs356 : ct354 13 = .inl (g.2 0, 120, .inl f77) := by rw [ec355, va_up_ne _ _ (by omega)]; exact hs316
                have hs357 : ct354 0 = .inr (9, [.int me, .ref (ad 1), .ref (ad 2), .ref (ad 3), .ref (ad 4), .int bks318, .int lks319, .int gos320, .int shn321, .ref (ad 5), .ref (ad 6), .ref (ad 7), .ref (ad 8), .ref (ad 9), .ref (ad 10), .ref (ad 11), .int tpd322, .int pl0323, .int ln0324, .int flt325, .int opn326, .int cmy327, .int x353, .int nm0329, .ref (ad 12), .ref (ad 13), .ref (ad 14), .ref (ad 15), .ref (ad 16), .ref (ad 17), .ref (ad 18), .ref (ad 19), .ref (ad 20), .ref (ad 21), .ref (ad 22), .ref (ad 23), .ref (ad 24), .ref (ad 25), .ref (ad 26), .ref (ad 27), .int mst330, .int sus331, .ref (ad 28), .ref (ad 29), .ref (ad 30), .ref (ad 31), .int cut332]) := by rw [ec355]; exact va_up_self _ _ _
                have z17_hs357 : zfi 17 (ct354 0) = (pl0323 : Int32).toInt := by rw [hs357]; rfl
                have z18_hs357 : zfi 18 (ct354 0) = (ln0324 : Int32).toInt := by rw [hs357]; rfl
                have z21_hs357 : zfi 21 (ct354 0) = (cmy327 : Int32).toInt := by rw [hs357]; rfl
                have z22_hs357 : zfi 22 (ct354 0) = (x353 : Int32).toInt := by rw [hs357]; rfl
                have hps2 := PS.op j2_0 (R2 := RC f0 W0) (r := r306) (by omega) (by omega) (by omega) (by omega) (wr_c hk314 rfl (by rw [ec355]; exact va_up_ne _ _ (by omega)) rfl (by have q0 : (0 : Int32).toInt = 0 := rfl; omega)) (hs356.trans hs76.symm) ((h307.resolve_left (by omega)).2) (by omega) (by omega) (fun fw W h t => h.pop t)
                refine lv_goto (tgt := 0) hx hb dX9_closesSums_56 (by decide) ?_
                exact ih0  ct354 _ _ ls (by omega) (by first | assumption | omega | decide) (by first | assumption | omega | decide) (by first | assumption | omega | decide) hI hP hD hS (lv_sub hl [0, 1] rfl)
  exact loop0 ((zfi 22 (ct 0) : Int).toNat + 1)  ct _ _ ls (by omega) (by first | assumption | omega | decide) (by first | assumption | omega | decide) (by first | assumption | omega | decide) hI hP hD hS (lv_sub hl [0, 1] rfl)
