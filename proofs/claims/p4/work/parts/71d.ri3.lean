set_option maxHeartbeats 4000000 in
set_option maxRecDepth 100000 in
theorem k_X9_together (l : Launch) (g : zG) (sz : Nat) (ad : Nat → Nat) (me : Int32) (ct : Nat → va_E) (k : Int32) (wh : Int32) (hI : IR g ad me ct) : Met l yX9_together (zW yX9_together cX9_together 8 (some .int)) ({ frames := 7, cells := 0, slots := 0, locals := 174 }) (va_Pc [.ref (ad 0), .int k, .int wh] (zA g (zw 32 ad ct) sz)) (va_Qi (fun (r : Int32) (_ : Unit) => (True)) (fun _ t => ∃ ct2 : Nat → va_E, zP g (zw 32 ad ct2) t.heap ∧ va_D (va_A (zw 32 ad ct) sz) (zw 32 ad ct2) ∧ IR g ad me ct2) (va_A (zw 32 ad ct) sz)) 0 0 (va_A (zw 32 ad ct) sz) := by
  refine Met.ofW (cc := cX9_together) (maxL := 8) (ret := (some .int)) (by decide) rfl ?_
  intro p e s m args below meth c s₁ B hml hv
  obtain ⟨rfl, hsz, hP, hK, hD0, hN⟩ := hv
  have hx := B.exec
  have hb := B.bytes
  have hr := B.returns
  have hg := zW.law (atoms_spec (ws := (zW yX9_together cX9_together 8 (some .int))) B.pre)
  have hown : s.vm.findClass RX9 = some m.cls := findClass_of_methodNamed B.named
  have hlocks := B.notSynchronized
  have hpe0 := hI.1.1
  subst hsz
  have hD := hD0.self (sz := s.heap.size)
  generalize hAe : va_A (zw 32 ad ct) s.heap.size = A at hD ⊢
  have hA : ∀ q : Nat, s.heap.size ≤ q → A q := fun q h => by rw [← hAe]; exact Or.inr h
  have hS : va_S A s.heap s.heap [] := va_S.rf
  have hl := lv_entry ([.ref (ad 0), .int k, .int wh]) (n := 8) (Nat.le_of_ble_eq_true rfl)
  rw [lg_entry_eq]
  generalize (lg_sl ([.ref (ad 0), .int k, .int wh]) ++ List.replicate (8 - (lg_sl ([.ref (ad 0), .int k, .int wh])).length) Slot.unset).toArray = ls at hl ⊢
  have hl : lv_has ls 8 [(0, .ref (ad 0)), (1, .int k), (2, .int wh)] := hl
  have rg_k := z_rng k
  have rg_wh := z_rng wh
  have q0 : ((0 : Int32)).toInt = 0 := by decide
  have q1 : ((1 : Int32)).toInt = 1 := by decide
  refine lv_iload_n hx hb dX9_together_0 rfl (lv_at hl 1 rfl) ?_
  refine zc_i (va_runS (As := [.int k]) (rest := []) ⟨hx, hb, hml, hown, hg⟩ (k_X9_isMany l g ad me ct k hI) (va_cwS 1 hg (z_gS mm_1404 mm_1405 mm_117 mm_1406) rfl rfl rfl (by decide +kernel) ⟨Nat.le_of_ble_eq_true rfl, Nat.le_of_ble_eq_true rfl⟩) (zR.pre [.int k] hP hK hN) rfl rfl hl.1 rfl (lv_room (Nat.le_of_ble_eq_true rfl)) dX9_together_1 ⟨Nat.le_of_ble_eq_true rfl, Nat.le_of_ble_eq_true rfl⟩) (fun r1 hr1 => ?_)
  rcases hr1 with hr1 | hr1
  · skip
    obtain ⟨rfl, h2, h3⟩ := hr1
    replace h2 : 1 ≤ k.toInt := h2
    replace h3 : k.toInt ≤ 16 := h3
    refine lv_if_eq (tgt := 16) hx hb dX9_together_4 (by decide) (fun c4 => ?_) (fun c4 => ?_)
    · skip
      exact absurd c4 (by decide)
    · skip
      refine lv_iload_n hx hb dX9_together_7 rfl (lv_at hl 2 rfl) ?_
      refine lv_iconst (v := 0) hx hb dX9_together_8 (by decide) ?_
      refine lv_iconst (v := 2) hx hb dX9_together_9 (by decide) ?_
      refine zc_i (va_runS (As := [.int wh, .int 0, .int 2]) (rest := []) ⟨hx, hb, hml, hown, hg⟩ (k_X9_in l g ad me ct wh (0 : Int32) (2 : Int32) hI) (va_cwS 3 hg (z_gS mm_1109 mm_1110 mm_117 mm_1111) rfl rfl rfl (by decide +kernel) ⟨Nat.le_of_ble_eq_true rfl, Nat.le_of_ble_eq_true rfl⟩) (zR.pre [.int wh, .int 0, .int 2] hP hK hN) rfl rfl hl.1 rfl (lv_room (Nat.le_of_ble_eq_true rfl)) dX9_together_10 ⟨Nat.le_of_ble_eq_true rfl, Nat.le_of_ble_eq_true rfl⟩) (fun r5 hr5 => ?_)
      rcases hr5 with hr5 | hr5
      · skip
        obtain ⟨rfl, h6, h7⟩ := hr5
        replace h6 : (0 : Int) ≤ wh.toInt := h6
        replace h7 : wh.toInt ≤ (2 : Int) := h7
        refine lv_if_ne (tgt := 18) hx hb dX9_together_13 (by decide) (fun c8 => ?_) (fun c8 => ?_)
        · skip
          refine lv_aload_n hx hb dX9_together_18 rfl (lv_at hl 0 rfl) ?_
          obtain ⟨bks10, lks11, gos12, shn13, tpd14, pl015, ln016, flt17, opn18, cmy19, wtg20, nm021, mst22, sus23, cut24, h25, h26, h27, h28, h29, h30, h31, h32, h33, h34, h35, h36, h37, h38, h39, h40, h41, h42, h43, h44, hs9⟩ := a9_0 hI.1
          refine va_get (D := g.1) (ci := 9) (v := .int shn13) (C := RX9) (T := TX9) (N := 47) hx hb hg inG9 hown hK hP 0 (zw_at (by omega) hs9) rfl 8 (by decide) (hg _ mm_966) (fun _ h9 => h9) rfl dX9_together_19 ?_
          refine lv_istore_n (lv' := [(3, .int shn13), (0, .ref (ad 0)), (1, .int k), (2, .int wh)]) hx hb dX9_together_22 rfl hl (by decide) rfl (fun ls hl => ?_)
          refine lv_iconst (v := 0) hx hb dX9_together_23 (by decide) ?_
          refine lv_istore (lv' := [(4, .int 0), (3, .int shn13), (0, .ref (ad 0)), (1, .int k), (2, .int wh)]) hx hb dX9_together_24 hl (by decide) rfl (fun ls hl => ?_)
          have loop26 : ∀ (n26 : Nat) (v4_26 : Int32) (ct45 : Nat → va_E) (H : Heap) (locs : List Loc) (ls : Array Slot), ((4 - v4_26.toInt : Int).toNat < n26) → (0 ≤ v4_26.toInt ∧ v4_26.toInt ≤ 4) → (IR g ad me ct45) → zP g (zw 32 ad ct45) H → va_D A (zw 32 ad ct45) → va_S A s.heap H locs → lv_has ls 8 [(4, .int v4_26), (3, .int shn13), (0, .ref (ad 0)), (1, .int k), (2, .int wh)] → W p l e (headSpec (zW yX9_together cX9_together 8 (some .int)) ({ frames := 7, cells := 0, slots := 0, locals := 174 })).room s m ([.ref (ad 0), .int k, .int wh] : List Value).toArray below meth c H locs 0 0 (MQ below (va_Qi (fun (r : Int32) (_ : Unit) => (True)) (fun _ t => ∃ ct2 : Nat → va_E, zP g (zw 32 ad ct2) t.heap ∧ va_D A (zw 32 ad ct2) ∧ IR g ad me ct2) A) ([.ref (ad 0), .int k, .int wh] : List Value).toArray s 0 0 A) (F0 m 26 ls []) := by
            intro n26
            induction n26 with
            | zero =>
              intro v4_26 ct45 H locs ls hn26 b4_26 hI hP hD hS hl
              exact absurd hn26 (Nat.not_lt_zero _)
            | succ n26 ih26 =>
              intro v4_26 ct45 H locs ls hn26 b4_26 hI hP hD hS hl
              refine lv_iload hx hb dX9_together_26 (lv_at hl 0 rfl) ?_
              refine lv_aload_n hx hb dX9_together_28 rfl (lv_at hl 2 rfl) ?_
              obtain ⟨bks47, lks48, gos49, shn50, tpd51, pl052, ln053, flt54, opn55, cmy56, wtg57, nm058, mst59, sus60, cut61, h62, h63, h64, h65, h66, h67, h68, h69, h70, h71, h72, h73, h74, h75, h76, h77, h78, h79, h80, h81, hs46⟩ := a9_0 hI.1
              refine va_get (D := g.1) (ci := 9) (v := .int bks47) (C := RX9) (T := TX9) (N := 47) hx hb hg inG9 hown hK hP 0 (zw_at (by omega) hs46) rfl 5 (by decide) (hg _ mm_963) (fun _ h9 => h9) rfl dX9_together_29 ?_
              refine lv_icmp_ge (tgt := 172) hx hb dX9_together_32 (by decide) (fun c82 => ?_) (fun c82 => ?_)
              · skip
                have c82 : bks47.toInt ≤ v4_26.toInt := (z_le rfl rfl).mp c82
                refine lv_bipush (v := (-2)) hx hb dX9_together_172 (by decide) ?_
                have q83 : ((-2) : Int32).toInt = -2 := by decide
                exact W.iret (v := (-2)) hx hb hr (fun t ht hW => ⟨⟨(-2), (), rfl, trivial, ct45, by rw [ht]; exact hP, hD, hI⟩, hS.F ht⟩) hS.2.2 dX9_together_174
              · skip
                have c82 : ¬ (bks47.toInt ≤ v4_26.toInt) := fun q => c82 ((z_le rfl rfl).mpr q)
                refine lv_iload_n hx hb dX9_together_35 rfl (lv_at hl 1 rfl) ?_
                refine lv_iload hx hb dX9_together_36 (lv_at hl 0 rfl) ?_
                refine lv_ishr hx hb dX9_together_38 ?_
                refine lv_topi (fun x84 ex84 => ?_)
                have tx84 := z_shr (x := shn13) rfl (by omega) v4_26
                rw [← ex84] at tx84
                refine lv_iconst (v := 1) hx hb dX9_together_39 (by decide) ?_
                refine lv_iand hx hb dX9_together_40 ?_
                refine lv_topi (fun x85 ex85 => ?_)
                have tx85 := z_andr (x := x84) (y := 1) (by decide : (1 : Int32).toInt = 1) (by omega)
                rw [← ex85] at tx85
                refine lv_if_ne (tgt := 47) hx hb dX9_together_41 (by decide) (fun c86 => ?_) (fun c86 => ?_)
                · skip
                  have c86 : ¬ (x85.toInt = 0) := fun q => c86 ((z_eq rfl (by decide : (0 : Int32).toInt = 0)).mpr q)
                  refine lv_aload_n hx hb dX9_together_47 rfl (lv_at hl 2 rfl) ?_
                  refine lv_iconst (v := 1) hx hb dX9_together_48 (by decide) ?_
                  refine lv_iload hx hb dX9_together_49 (lv_at hl 0 rfl) ?_
                  refine lv_ishl hx hb dX9_together_51 ?_
                  refine lv_topi (fun x87 ex87 => ?_)
                  have tx87 := z_shl1 (y := v4_26) rfl (by omega) (k := 3) (by decide) (by omega)
                  rw [← ex87] at tx87
                  refine va_put (D := g.1) (ci := 9) (v := .int x87) (ty := .int) (C := RX9) (T := TX9) (N := 47) hx hb hg inG9 tyX9 tyX9_ok nmX9 hown hK hP hD hS 0 (zw_at (by omega) hs46) rfl 8 (by decide) (hg _ mm_966) (fun _ h9 => h9) rfl (by decide +kernel) rfl rfl (Nat.le_of_ble_eq_true rfl) dX9_together_52 (fun H locs hP hD hS => ?_)
                  have hP : zP g ((zw 32 ad ct45).set 0 (ad 0, .inr (9, [.int me, .ref (ad 1), .ref (ad 2), .ref (ad 3), .ref (ad 4), .int bks47, .int lks48, .int gos49, .int x87, .ref (ad 5), .ref (ad 6), .ref (ad 7), .ref (ad 8), .ref (ad 9), .ref (ad 10), .ref (ad 11), .int tpd51, .int pl052, .int ln053, .int flt54, .int opn55, .int cmy56, .int wtg57, .int nm058, .ref (ad 12), .ref (ad 13), .ref (ad 14), .ref (ad 15), .ref (ad 16), .ref (ad 17), .ref (ad 18), .ref (ad 19), .ref (ad 20), .ref (ad 21), .ref (ad 22), .ref (ad 23), .ref (ad 24), .ref (ad 25), .ref (ad 26), .ref (ad 27), .int mst59, .int sus60, .ref (ad 28), .ref (ad 29), .ref (ad 30), .ref (ad 31), .int cut61]))) H := hP
                  have hD : va_D A ((zw 32 ad ct45).set 0 (ad 0, .inr (9, [.int me, .ref (ad 1), .ref (ad 2), .ref (ad 3), .ref (ad 4), .int bks47, .int lks48, .int gos49, .int x87, .ref (ad 5), .ref (ad 6), .ref (ad 7), .ref (ad 8), .ref (ad 9), .ref (ad 10), .ref (ad 11), .int tpd51, .int pl052, .int ln053, .int flt54, .int opn55, .int cmy56, .int wtg57, .int nm058, .ref (ad 12), .ref (ad 13), .ref (ad 14), .ref (ad 15), .ref (ad 16), .ref (ad 17), .ref (ad 18), .ref (ad 19), .ref (ad 20), .ref (ad 21), .ref (ad 22), .ref (ad 23), .ref (ad 24), .ref (ad 25), .ref (ad 26), .ref (ad 27), .int mst59, .int sus60, .ref (ad 28), .ref (ad 29), .ref (ad 30), .ref (ad 31), .int cut61]))) := hD
                  rw [zw_set (by omega)] at hP hD
                  obtain ⟨ct88, ec89⟩ : ∃ z : Nat → va_E, z = va_up ct45 0 (.inr (9, [.int me, .ref (ad 1), .ref (ad 2), .ref (ad 3), .ref (ad 4), .int bks47, .int lks48, .int gos49, .int x87, .ref (ad 5), .ref (ad 6), .ref (ad 7), .ref (ad 8), .ref (ad 9), .ref (ad 10), .ref (ad 11), .int tpd51, .int pl052, .int ln053, .int flt54, .int opn55, .int cmy56, .int wtg57, .int nm058, .ref (ad 12), .ref (ad 13), .ref (ad 14), .ref (ad 15), .ref (ad 16), .ref (ad 17), .ref (ad 18), .ref (ad 19), .ref (ad 20), .ref (ad 21), .ref (ad 22), .ref (ad 23), .ref (ad 24), .ref (ad 25), .ref (ad 26), .ref (ad 27), .int mst59, .int sus60, .ref (ad 28), .ref (ad 29), .ref (ad 30), .ref (ad 31), .int cut61])) := ⟨_, rfl⟩
                  rw [← ec89] at hP hD
                  have hI : IR g ad me ct88 := by rw [ec89]; exact upR hI (by decide) (i9_0 ⟨(bks47 : Int32), (lks48 : Int32), (gos49 : Int32), (x87 : Int32), (tpd51 : Int32), (pl052 : Int32), (ln053 : Int32), (flt54 : Int32), (opn55 : Int32), (cmy56 : Int32), (wtg57 : Int32), (nm058 : Int32), (mst59 : Int32), (sus60 : Int32), (cut61 : Int32), (by first | omega | decide), (by first | omega | decide), (by first | omega | decide), (by first | omega | decide), (by first | omega | decide), (by first | omega | decide), (by first | omega | decide), (by first | omega | decide), (by first | omega | decide), (by first | omega | decide), (by first | omega | decide), (by first | omega | decide), (by first | omega | decide), (by first | omega | decide), (by first | omega | decide), (by first | omega | decide), (by first | omega | decide), (by first | omega | decide), (by first | omega | decide), (by first | omega | decide), rfl⟩)
                  have hs90 : ct88 0 = .inr (9, [.int me, .ref (ad 1), .ref (ad 2), .ref (ad 3), .ref (ad 4), .int bks47, .int lks48, .int gos49, .int x87, .ref (ad 5), .ref (ad 6), .ref (ad 7), .ref (ad 8), .ref (ad 9), .ref (ad 10), .ref (ad 11), .int tpd51, .int pl052, .int ln053, .int flt54, .int opn55, .int cmy56, .int wtg57, .int nm058, .ref (ad 12), .ref (ad 13), .ref (ad 14), .ref (ad 15), .ref (ad 16), .ref (ad 17), .ref (ad 18), .ref (ad 19), .ref (ad 20), .ref (ad 21), .ref (ad 22), .ref (ad 23), .ref (ad 24), .ref (ad 25), .ref (ad 26), .ref (ad 27), .int mst59, .int sus60, .ref (ad 28), .ref (ad 29), .ref (ad 30), .ref (ad 31), .int cut61]) := by rw [ec89]; exact va_up_self _ _ _
                  refine lv_aload_n hx hb dX9_together_55 rfl (lv_at hl 2 rfl) ?_
                  refine lv_iload hx hb dX9_together_56 (lv_at hl 0 rfl) ?_
                  refine lv_iload_n hx hb dX9_together_58 rfl (lv_at hl 3 rfl) ?_
                  refine lv_iconst (v := 0) hx hb dX9_together_59 (by decide) ?_
                  have hFc := zw_free hD hS hA
                  refine va_calli (va_runV (As := [.int v4_26, .int k, .int 0]) (rest := []) ⟨hx, hb, hml, hown, hg⟩ (k_X9_safeOf l g _ ad me ct88 v4_26 k (0 : Int32) (by first | omega | decide) (by first | omega | decide) hI) (cwV 3 hg (z_gV mm_1407 mm_1409 mm_96 mm_117 mm_1410) rfl rfl rfl (by decide +kernel) ⟨Nat.le_of_ble_eq_true rfl, Nat.le_of_ble_eq_true rfl⟩) ⟨(zA.pre [.ref (ad 0), .int v4_26, .int k, .int 0] hP hK hD hN).1, va_recv hK hP (ci := 9) (q0 := 0) rfl (zw_at (by omega) hs90), (zA.pre [.ref (ad 0), .int v4_26, .int k, .int 0] hP hK hD hN).2⟩ rfl rfl hl.1 rfl (lv_room (Nat.le_of_ble_eq_true rfl)) dX9_together_60 ⟨Nat.le_of_ble_eq_true rfl, Nat.le_of_ble_eq_true rfl⟩) hS (fun q _ h => hFc q h) hFc (fun r91 _ t H1 locs ht hvm hr91 hB hz1 hk1 hS => ?_)
                  obtain ⟨ct92, hP1, hD1, hI, hk93, hk94⟩ := hB
                  rw [ht] at hP1
                  have hD := hD1.weaken (fun _ _ _ h => hFc _ h)
                  generalize H1 = H at hP1 hS ⊢
                  have hP := hP1
                  refine W.widen (k := 0) (n := 0) (Nat.le_refl _) (Nat.le_refl _) ?_
                  obtain ⟨hr91_0, hr91_1⟩ := hr91
                  have hr91_0 : 0 ≤ r91.toInt := hr91_0
                  have hr91_1 : r91.toInt ≤ 255 := hr91_1
                  refine lv_aload_n hx hb dX9_together_63 rfl (lv_at hl 2 rfl) ?_
                  refine lv_iload hx hb dX9_together_64 (lv_at hl 0 rfl) ?_
                  obtain ⟨bks96, lks97, gos98, shn99, tpd100, pl0101, ln0102, flt103, opn104, cmy105, wtg106, nm0107, mst108, sus109, cut110, h111, h112, h113, h114, h115, h116, h117, h118, h119, h120, h121, h122, h123, h124, h125, h126, h127, h128, h129, h130, hs95⟩ := a9_0 hI.1
                  refine zc_i (va_runV (As := [.int v4_26]) (rest := [.int r91]) ⟨hx, hb, hml, hown, hg⟩ (k_X9_allLines l g ad me ct92 v4_26 (by first | omega | decide) hI) (cwV 1 hg (z_gV mm_1468 mm_1470 mm_105 mm_117 mm_1471) rfl rfl rfl (by decide +kernel) ⟨Nat.le_of_ble_eq_true rfl, Nat.le_of_ble_eq_true rfl⟩) ⟨(zR.pre [.ref (ad 0), .int v4_26] hP hK hN).1, va_recv hK hP (ci := 9) (q0 := 0) rfl (zw_at (by omega) hs95), (zR.pre [.ref (ad 0), .int v4_26] hP hK hN).2⟩ rfl rfl hl.1 rfl (lv_room (Nat.le_of_ble_eq_true rfl)) dX9_together_66 ⟨Nat.le_of_ble_eq_true rfl, Nat.le_of_ble_eq_true rfl⟩) (fun r131 hr131 => ?_)
                  obtain ⟨hr131_0, hr131_1⟩ := hr131
                  have hr131_0 : 0 ≤ r131.toInt := hr131_0
                  have hr131_1 : r131.toInt ≤ 255 := hr131_1
                  refine lv_icmp_ne (tgt := 76) hx hb dX9_together_69 (by decide) (fun c132 => ?_) (fun c132 => ?_)
                  · skip
                    have c132 : ¬ (r91.toInt = r131.toInt) := fun q => c132 ((z_eq rfl rfl).mpr q)
                    refine lv_iconst (v := 0) hx hb dX9_together_76 (by decide) ?_
                    refine lv_istore (lv' := [(5, .int 0), (4, .int v4_26), (3, .int shn13), (0, .ref (ad 0)), (1, .int k), (2, .int wh)]) hx hb dX9_together_77 hl (by decide) rfl (fun ls hl => ?_)
                    refine lv_aload_n hx hb dX9_together_79 rfl (lv_at hl 3 rfl) ?_
                    refine lv_iload_n hx hb dX9_together_80 rfl (lv_at hl 2 rfl) ?_
                    refine va_put (D := g.1) (ci := 9) (v := .int shn13) (ty := .int) (C := RX9) (T := TX9) (N := 47) hx hb hg inG9 tyX9 tyX9_ok nmX9 hown hK hP hD hS 0 (zw_at (by omega) hs95) rfl 8 (by decide) (hg _ mm_966) (fun _ h9 => h9) rfl (by decide +kernel) rfl rfl (Nat.le_of_ble_eq_true rfl) dX9_together_81 (fun H locs hP hD hS => ?_)
                    have hP : zP g ((zw 32 ad ct92).set 0 (ad 0, .inr (9, [.int me, .ref (ad 1), .ref (ad 2), .ref (ad 3), .ref (ad 4), .int bks96, .int lks97, .int gos98, .int shn13, .ref (ad 5), .ref (ad 6), .ref (ad 7), .ref (ad 8), .ref (ad 9), .ref (ad 10), .ref (ad 11), .int tpd100, .int pl0101, .int ln0102, .int flt103, .int opn104, .int cmy105, .int wtg106, .int nm0107, .ref (ad 12), .ref (ad 13), .ref (ad 14), .ref (ad 15), .ref (ad 16), .ref (ad 17), .ref (ad 18), .ref (ad 19), .ref (ad 20), .ref (ad 21), .ref (ad 22), .ref (ad 23), .ref (ad 24), .ref (ad 25), .ref (ad 26), .ref (ad 27), .int mst108, .int sus109, .ref (ad 28), .ref (ad 29), .ref (ad 30), .ref (ad 31), .int cut110]))) H := hP
                    have hD : va_D A ((zw 32 ad ct92).set 0 (ad 0, .inr (9, [.int me, .ref (ad 1), .ref (ad 2), .ref (ad 3), .ref (ad 4), .int bks96, .int lks97, .int gos98, .int shn13, .ref (ad 5), .ref (ad 6), .ref (ad 7), .ref (ad 8), .ref (ad 9), .ref (ad 10), .ref (ad 11), .int tpd100, .int pl0101, .int ln0102, .int flt103, .int opn104, .int cmy105, .int wtg106, .int nm0107, .ref (ad 12), .ref (ad 13), .ref (ad 14), .ref (ad 15), .ref (ad 16), .ref (ad 17), .ref (ad 18), .ref (ad 19), .ref (ad 20), .ref (ad 21), .ref (ad 22), .ref (ad 23), .ref (ad 24), .ref (ad 25), .ref (ad 26), .ref (ad 27), .int mst108, .int sus109, .ref (ad 28), .ref (ad 29), .ref (ad 30), .ref (ad 31), .int cut110]))) := hD
                    rw [zw_set (by omega)] at hP hD
                    obtain ⟨ct133, ec134⟩ : ∃ z : Nat → va_E, z = va_up ct92 0 (.inr (9, [.int me, .ref (ad 1), .ref (ad 2), .ref (ad 3), .ref (ad 4), .int bks96, .int lks97, .int gos98, .int shn13, .ref (ad 5), .ref (ad 6), .ref (ad 7), .ref (ad 8), .ref (ad 9), .ref (ad 10), .ref (ad 11), .int tpd100, .int pl0101, .int ln0102, .int flt103, .int opn104, .int cmy105, .int wtg106, .int nm0107, .ref (ad 12), .ref (ad 13), .ref (ad 14), .ref (ad 15), .ref (ad 16), .ref (ad 17), .ref (ad 18), .ref (ad 19), .ref (ad 20), .ref (ad 21), .ref (ad 22), .ref (ad 23), .ref (ad 24), .ref (ad 25), .ref (ad 26), .ref (ad 27), .int mst108, .int sus109, .ref (ad 28), .ref (ad 29), .ref (ad 30), .ref (ad 31), .int cut110])) := ⟨_, rfl⟩
                    rw [← ec134] at hP hD
                    have hI : IR g ad me ct133 := by rw [ec134]; exact upR hI (by decide) (i9_0 ⟨(bks96 : Int32), (lks97 : Int32), (gos98 : Int32), (shn13 : Int32), (tpd100 : Int32), (pl0101 : Int32), (ln0102 : Int32), (flt103 : Int32), (opn104 : Int32), (cmy105 : Int32), (wtg106 : Int32), (nm0107 : Int32), (mst108 : Int32), (sus109 : Int32), (cut110 : Int32), (by first | omega | decide), (by first | omega | decide), (by first | omega | decide), (by first | omega | decide), (by first | omega | decide), (by first | omega | decide), (by first | omega | decide), (by first | omega | decide), (by first | omega | decide), (by first | omega | decide), (by first | omega | decide), (by first | omega | decide), (by first | omega | decide), (by first | omega | decide), (by first | omega | decide), (by first | omega | decide), (by first | omega | decide), (by first | omega | decide), (by first | omega | decide), (by first | omega | decide), rfl⟩)
                    have hs135 : ct133 0 = .inr (9, [.int me, .ref (ad 1), .ref (ad 2), .ref (ad 3), .ref (ad 4), .int bks96, .int lks97, .int gos98, .int shn13, .ref (ad 5), .ref (ad 6), .ref (ad 7), .ref (ad 8), .ref (ad 9), .ref (ad 10), .ref (ad 11), .int tpd100, .int pl0101, .int ln0102, .int flt103, .int opn104, .int cmy105, .int wtg106, .int nm0107, .ref (ad 12), .ref (ad 13), .ref (ad 14), .ref (ad 15), .ref (ad 16), .ref (ad 17), .ref (ad 18), .ref (ad 19), .ref (ad 20), .ref (ad 21), .ref (ad 22), .ref (ad 23), .ref (ad 24), .ref (ad 25), .ref (ad 26), .ref (ad 27), .int mst108, .int sus109, .ref (ad 28), .ref (ad 29), .ref (ad 30), .ref (ad 31), .int cut110]) := by rw [ec134]; exact va_up_self _ _ _
                    refine lv_aload_n hx hb dX9_together_84 rfl (lv_at hl 3 rfl) ?_
                    refine lv_iload hx hb dX9_together_85 (lv_at hl 1 rfl) ?_
                    refine zc_i (va_runV (As := [.int v4_26]) (rest := []) ⟨hx, hb, hml, hown, hg⟩ (k_X9_allLines l g ad me ct133 v4_26 (by first | omega | decide) hI) (cwV 1 hg (z_gV mm_1468 mm_1470 mm_105 mm_117 mm_1471) rfl rfl rfl (by decide +kernel) ⟨Nat.le_of_ble_eq_true rfl, Nat.le_of_ble_eq_true rfl⟩) ⟨(zR.pre [.ref (ad 0), .int v4_26] hP hK hN).1, va_recv hK hP (ci := 9) (q0 := 0) rfl (zw_at (by omega) hs135), (zR.pre [.ref (ad 0), .int v4_26] hP hK hN).2⟩ rfl rfl hl.1 rfl (lv_room (Nat.le_of_ble_eq_true rfl)) dX9_together_87 ⟨Nat.le_of_ble_eq_true rfl, Nat.le_of_ble_eq_true rfl⟩) (fun r136 hr136 => ?_)
                    obtain ⟨hr136_0, hr136_1⟩ := hr136
                    have hr136_0 : 0 ≤ r136.toInt := hr136_0
                    have hr136_1 : r136.toInt ≤ 255 := hr136_1
                    refine lv_aload_n hx hb dX9_together_90 rfl (lv_at hl 3 rfl) ?_
                    refine lv_iload hx hb dX9_together_91 (lv_at hl 1 rfl) ?_
                    refine lv_iload_n hx hb dX9_together_93 rfl (lv_at hl 4 rfl) ?_
                    refine lv_iconst (v := 0) hx hb dX9_together_94 (by decide) ?_
                    have hFc := zw_free hD hS hA
                    refine va_calli (va_runV (As := [.int v4_26, .int k, .int 0]) (rest := [.int r136]) ⟨hx, hb, hml, hown, hg⟩ (k_X9_safeOf l g _ ad me ct133 v4_26 k (0 : Int32) (by first | omega | decide) (by first | omega | decide) hI) (cwV 3 hg (z_gV mm_1407 mm_1409 mm_96 mm_117 mm_1410) rfl rfl rfl (by decide +kernel) ⟨Nat.le_of_ble_eq_true rfl, Nat.le_of_ble_eq_true rfl⟩) ⟨(zA.pre [.ref (ad 0), .int v4_26, .int k, .int 0] hP hK hD hN).1, va_recv hK hP (ci := 9) (q0 := 0) rfl (zw_at (by omega) hs135), (zA.pre [.ref (ad 0), .int v4_26, .int k, .int 0] hP hK hD hN).2⟩ rfl rfl hl.1 rfl (lv_room (Nat.le_of_ble_eq_true rfl)) dX9_together_95 ⟨Nat.le_of_ble_eq_true rfl, Nat.le_of_ble_eq_true rfl⟩) hS (fun q _ h => hFc q h) hFc (fun r137 _ t H1 locs ht hvm hr137 hB hz1 hk1 hS => ?_)
                    obtain ⟨ct138, hP1, hD1, hI, hk139, hk140⟩ := hB
                    rw [ht] at hP1
                    have hD := hD1.weaken (fun _ _ _ h => hFc _ h)
                    generalize H1 = H at hP1 hS ⊢
                    have hP := hP1
                    refine W.widen (k := 0) (n := 0) (Nat.le_refl _) (Nat.le_refl _) ?_
                    obtain ⟨hr137_0, hr137_1⟩ := hr137
                    have hr137_0 : 0 ≤ r137.toInt := hr137_0
                    have hr137_1 : r137.toInt ≤ 255 := hr137_1
                    refine lv_iconst (v := (-1)) hx hb dX9_together_98 (by decide) ?_
                    refine lv_ixor hx hb dX9_together_99 ?_
                    refine lv_topi (fun x141 ex141 => ?_)
                    refine lv_iand hx hb dX9_together_100 ?_
                    refine lv_topi (fun x142 ex142 => ?_)
                    have tx142 := z_andl (x := r136) (y := x141) rfl (by omega)
                    rw [← ex142] at tx142
                    refine lv_istore (lv' := [(6, .int x142), (5, .int 0), (4, .int v4_26), (3, .int shn13), (0, .ref (ad 0)), (1, .int k), (2, .int wh)]) hx hb dX9_together_101 hl (by decide) rfl (fun ls hl => ?_)
                    refine lv_iload hx hb dX9_together_103 (lv_at hl 1 rfl) ?_
                    refine lv_if_eq (tgt := 166) hx hb dX9_together_105 (by decide) (fun c143 => ?_) (fun c143 => ?_)
                    · skip
                      obtain ⟨x144, ex144⟩ : ∃ y : Int32, y = v4_26 + 1 := ⟨_, rfl⟩
                      have tx144 : x144.toInt = v4_26.toInt + 1 := by rw [ex144]; exact z_add rfl (by decide : (1 : Int32).toInt = 1) (by omega) (by omega)
                      refine lv_iinc (v := x144) (lv' := [(4, .int x144), (6, .int x142), (5, .int 0), (3, .int shn13), (0, .ref (ad 0)), (1, .int k), (2, .int wh)]) hx hb dX9_together_166 hl (k := 2) rfl (by rw [ex144]; rfl) (by decide) rfl (fun ls hl => ?_)
                      refine lv_goto (tgt := 26) hx hb dX9_together_169 (by decide) ?_
                      exact ih26 x144 ct138 _ _ ls (by omega) (by first | assumption | omega | decide) hI hP hD hS (lv_sub hl [0, 3, 4, 5, 6] rfl)
                    · skip
                      exact absurd c143 (by decide)
                  · skip
                    have c132 : r91.toInt = r131.toInt := (z_eq rfl rfl).mp c132
                    refine lv_iconst (v := 1) hx hb dX9_together_72 (by decide) ?_
                    refine lv_goto (tgt := 77) hx hb dX9_together_73 (by decide) ?_
                    refine lv_istore (lv' := [(5, .int 1), (4, .int v4_26), (3, .int shn13), (0, .ref (ad 0)), (1, .int k), (2, .int wh)]) hx hb dX9_together_77 hl (by decide) rfl (fun ls hl => ?_)
                    refine lv_aload_n hx hb dX9_together_79 rfl (lv_at hl 3 rfl) ?_
                    refine lv_iload_n hx hb dX9_together_80 rfl (lv_at hl 2 rfl) ?_
                    refine va_put (D := g.1) (ci := 9) (v := .int shn13) (ty := .int) (C := RX9) (T := TX9) (N := 47) hx hb hg inG9 tyX9 tyX9_ok nmX9 hown hK hP hD hS 0 (zw_at (by omega) hs95) rfl 8 (by decide) (hg _ mm_966) (fun _ h9 => h9) rfl (by decide +kernel) rfl rfl (Nat.le_of_ble_eq_true rfl) dX9_together_81 (fun H locs hP hD hS => ?_)
                    have hP : zP g ((zw 32 ad ct92).set 0 (ad 0, .inr (9, [.int me, .ref (ad 1), .ref (ad 2), .ref (ad 3), .ref (ad 4), .int bks96, .int lks97, .int gos98, .int shn13, .ref (ad 5), .ref (ad 6), .ref (ad 7), .ref (ad 8), .ref (ad 9), .ref (ad 10), .ref (ad 11), .int tpd100, .int pl0101, .int ln0102, .int flt103, .int opn104, .int cmy105, .int wtg106, .int nm0107, .ref (ad 12), .ref (ad 13), .ref (ad 14), .ref (ad 15), .ref (ad 16), .ref (ad 17), .ref (ad 18), .ref (ad 19), .ref (ad 20), .ref (ad 21), .ref (ad 22), .ref (ad 23), .ref (ad 24), .ref (ad 25), .ref (ad 26), .ref (ad 27), .int mst108, .int sus109, .ref (ad 28), .ref (ad 29), .ref (ad 30), .ref (ad 31), .int cut110]))) H := hP
                    have hD : va_D A ((zw 32 ad ct92).set 0 (ad 0, .inr (9, [.int me, .ref (ad 1), .ref (ad 2), .ref (ad 3), .ref (ad 4), .int bks96, .int lks97, .int gos98, .int shn13, .ref (ad 5), .ref (ad 6), .ref (ad 7), .ref (ad 8), .ref (ad 9), .ref (ad 10), .ref (ad 11), .int tpd100, .int pl0101, .int ln0102, .int flt103, .int opn104, .int cmy105, .int wtg106, .int nm0107, .ref (ad 12), .ref (ad 13), .ref (ad 14), .ref (ad 15), .ref (ad 16), .ref (ad 17), .ref (ad 18), .ref (ad 19), .ref (ad 20), .ref (ad 21), .ref (ad 22), .ref (ad 23), .ref (ad 24), .ref (ad 25), .ref (ad 26), .ref (ad 27), .int mst108, .int sus109, .ref (ad 28), .ref (ad 29), .ref (ad 30), .ref (ad 31), .int cut110]))) := hD
                    rw [zw_set (by omega)] at hP hD
                    obtain ⟨ct145, ec146⟩ : ∃ z : Nat → va_E, z = va_up ct92 0 (.inr (9, [.int me, .ref (ad 1), .ref (ad 2), .ref (ad 3), .ref (ad 4), .int bks96, .int lks97, .int gos98, .int shn13, .ref (ad 5), .ref (ad 6), .ref (ad 7), .ref (ad 8), .ref (ad 9), .ref (ad 10), .ref (ad 11), .int tpd100, .int pl0101, .int ln0102, .int flt103, .int opn104, .int cmy105, .int wtg106, .int nm0107, .ref (ad 12), .ref (ad 13), .ref (ad 14), .ref (ad 15), .ref (ad 16), .ref (ad 17), .ref (ad 18), .ref (ad 19), .ref (ad 20), .ref (ad 21), .ref (ad 22), .ref (ad 23), .ref (ad 24), .ref (ad 25), .ref (ad 26), .ref (ad 27), .int mst108, .int sus109, .ref (ad 28), .ref (ad 29), .ref (ad 30), .ref (ad 31), .int cut110])) := ⟨_, rfl⟩
                    rw [← ec146] at hP hD
                    have hI : IR g ad me ct145 := by rw [ec146]; exact upR hI (by decide) (i9_0 ⟨(bks96 : Int32), (lks97 : Int32), (gos98 : Int32), (shn13 : Int32), (tpd100 : Int32), (pl0101 : Int32), (ln0102 : Int32), (flt103 : Int32), (opn104 : Int32), (cmy105 : Int32), (wtg106 : Int32), (nm0107 : Int32), (mst108 : Int32), (sus109 : Int32), (cut110 : Int32), (by first | omega | decide), (by first | omega | decide), (by first | omega | decide), (by first | omega | decide), (by first | omega | decide), (by first | omega | decide), (by first | omega | decide), (by first | omega | decide), (by first | omega | decide), (by first | omega | decide), (by first | omega | decide), (by first | omega | decide), (by first | omega | decide), (by first | omega | decide), (by first | omega | decide), (by first | omega | decide), (by first | omega | decide), (by first | omega | decide), (by first | omega | decide), (by first | omega | decide), rfl⟩)
                    have hs147 : ct145 0 = .inr (9, [.int me, .ref (ad 1), .ref (ad 2), .ref (ad 3), .ref (ad 4), .int bks96, .int lks97, .int gos98, .int shn13, .ref (ad 5), .ref (ad 6), .ref (ad 7), .ref (ad 8), .ref (ad 9), .ref (ad 10), .ref (ad 11), .int tpd100, .int pl0101, .int ln0102, .int flt103, .int opn104, .int cmy105, .int wtg106, .int nm0107, .ref (ad 12), .ref (ad 13), .ref (ad 14), .ref (ad 15), .ref (ad 16), .ref (ad 17), .ref (ad 18), .ref (ad 19), .ref (ad 20), .ref (ad 21), .ref (ad 22), .ref (ad 23), .ref (ad 24), .ref (ad 25), .ref (ad 26), .ref (ad 27), .int mst108, .int sus109, .ref (ad 28), .ref (ad 29), .ref (ad 30), .ref (ad 31), .int cut110]) := by rw [ec146]; exact va_up_self _ _ _
                    refine lv_aload_n hx hb dX9_together_84 rfl (lv_at hl 3 rfl) ?_
                    refine lv_iload hx hb dX9_together_85 (lv_at hl 1 rfl) ?_
                    refine zc_i (va_runV (As := [.int v4_26]) (rest := []) ⟨hx, hb, hml, hown, hg⟩ (k_X9_allLines l g ad me ct145 v4_26 (by first | omega | decide) hI) (cwV 1 hg (z_gV mm_1468 mm_1470 mm_105 mm_117 mm_1471) rfl rfl rfl (by decide +kernel) ⟨Nat.le_of_ble_eq_true rfl, Nat.le_of_ble_eq_true rfl⟩) ⟨(zR.pre [.ref (ad 0), .int v4_26] hP hK hN).1, va_recv hK hP (ci := 9) (q0 := 0) rfl (zw_at (by omega) hs147), (zR.pre [.ref (ad 0), .int v4_26] hP hK hN).2⟩ rfl rfl hl.1 rfl (lv_room (Nat.le_of_ble_eq_true rfl)) dX9_together_87 ⟨Nat.le_of_ble_eq_true rfl, Nat.le_of_ble_eq_true rfl⟩) (fun r148 hr148 => ?_)
                    obtain ⟨hr148_0, hr148_1⟩ := hr148
                    have hr148_0 : 0 ≤ r148.toInt := hr148_0
                    have hr148_1 : r148.toInt ≤ 255 := hr148_1
                    refine lv_aload_n hx hb dX9_together_90 rfl (lv_at hl 3 rfl) ?_
                    refine lv_iload hx hb dX9_together_91 (lv_at hl 1 rfl) ?_
                    refine lv_iload_n hx hb dX9_together_93 rfl (lv_at hl 4 rfl) ?_
                    refine lv_iconst (v := 0) hx hb dX9_together_94 (by decide) ?_
                    have hFc := zw_free hD hS hA
                    refine va_calli (va_runV (As := [.int v4_26, .int k, .int 0]) (rest := [.int r148]) ⟨hx, hb, hml, hown, hg⟩ (k_X9_safeOf l g _ ad me ct145 v4_26 k (0 : Int32) (by first | omega | decide) (by first | omega | decide) hI) (cwV 3 hg (z_gV mm_1407 mm_1409 mm_96 mm_117 mm_1410) rfl rfl rfl (by decide +kernel) ⟨Nat.le_of_ble_eq_true rfl, Nat.le_of_ble_eq_true rfl⟩) ⟨(zA.pre [.ref (ad 0), .int v4_26, .int k, .int 0] hP hK hD hN).1, va_recv hK hP (ci := 9) (q0 := 0) rfl (zw_at (by omega) hs147), (zA.pre [.ref (ad 0), .int v4_26, .int k, .int 0] hP hK hD hN).2⟩ rfl rfl hl.1 rfl (lv_room (Nat.le_of_ble_eq_true rfl)) dX9_together_95 ⟨Nat.le_of_ble_eq_true rfl, Nat.le_of_ble_eq_true rfl⟩) hS (fun q _ h => hFc q h) hFc (fun r149 _ t H1 locs ht hvm hr149 hB hz1 hk1 hS => ?_)
                    obtain ⟨ct150, hP1, hD1, hI, hk151, hk152⟩ := hB
                    rw [ht] at hP1
                    have hD := hD1.weaken (fun _ _ _ h => hFc _ h)
                    generalize H1 = H at hP1 hS ⊢
                    have hP := hP1
                    refine W.widen (k := 0) (n := 0) (Nat.le_refl _) (Nat.le_refl _) ?_
                    obtain ⟨hr149_0, hr149_1⟩ := hr149
                    have hr149_0 : 0 ≤ r149.toInt := hr149_0
                    have hr149_1 : r149.toInt ≤ 255 := hr149_1
                    refine lv_iconst (v := (-1)) hx hb dX9_together_98 (by decide) ?_
                    refine lv_ixor hx hb dX9_together_99 ?_
                    refine lv_topi (fun x153 ex153 => ?_)
                    refine lv_iand hx hb dX9_together_100 ?_
                    refine lv_topi (fun x154 ex154 => ?_)
                    have tx154 := z_andl (x := r148) (y := x153) rfl (by omega)
                    rw [← ex154] at tx154
                    refine lv_istore (lv' := [(6, .int x154), (5, .int 1), (4, .int v4_26), (3, .int shn13), (0, .ref (ad 0)), (1, .int k), (2, .int wh)]) hx hb dX9_together_101 hl (by decide) rfl (fun ls hl => ?_)
                    refine lv_iload hx hb dX9_together_103 (lv_at hl 1 rfl) ?_
                    refine lv_if_eq (tgt := 166) hx hb dX9_together_105 (by decide) (fun c155 => ?_) (fun c155 => ?_)
                    · skip
                      exact absurd c155 (by decide)
                    · skip
                      refine lv_iload hx hb dX9_together_108 (lv_at hl 0 rfl) ?_
                      refine lv_if_ne (tgt := 116) hx hb dX9_together_110 (by decide) (fun c156 => ?_) (fun c156 => ?_)
                      · skip
                        have c156 : ¬ (x154.toInt = 0) := fun q => c156 ((z_eq rfl (by decide : (0 : Int32).toInt = 0)).mpr q)
                        refine lv_iconst (v := 0) hx hb dX9_together_116 (by decide) ?_
                        refine lv_istore (lv' := [(7, .int 0), (6, .int x154), (5, .int 1), (4, .int v4_26), (3, .int shn13), (0, .ref (ad 0)), (1, .int k), (2, .int wh)]) hx hb dX9_together_117 hl (by decide) rfl (fun ls hl => ?_)
                        have loop119 : ∀ (n119 : Nat) (v7_119 : Int32) (ct157 : Nat → va_E) (H : Heap) (locs : List Loc) (ls : Array Slot), ((8 - v7_119.toInt : Int).toNat < n119) → (0 ≤ v7_119.toInt ∧ v7_119.toInt ≤ 7) → (ZE x154 v7_119.toInt) → (IR g ad me ct157) → zP g (zw 32 ad ct157) H → va_D A (zw 32 ad ct157) → va_S A s.heap H locs → lv_has ls 8 [(7, .int v7_119), (6, .int x154), (5, .int 1), (4, .int v4_26), (3, .int shn13), (0, .ref (ad 0)), (1, .int k), (2, .int wh)] → W p l e (headSpec (zW yX9_together cX9_together 8 (some .int)) ({ frames := 7, cells := 0, slots := 0, locals := 174 })).room s m ([.ref (ad 0), .int k, .int wh] : List Value).toArray below meth c H locs 0 0 (MQ below (va_Qi (fun (r : Int32) (_ : Unit) => (True)) (fun _ t => ∃ ct2 : Nat → va_E, zP g (zw 32 ad ct2) t.heap ∧ va_D A (zw 32 ad ct2) ∧ IR g ad me ct2) A) ([.ref (ad 0), .int k, .int wh] : List Value).toArray s 0 0 A) (F0 m 119 ls []) := by
                          intro n119
                          induction n119 with
                          | zero =>
                            intro v7_119 ct157 H locs ls hn119 b7_119 j0_119 hI hP hD hS hl
                            exact absurd hn119 (Nat.not_lt_zero _)
                          | succ n119 ih119 =>
                            intro v7_119 ct157 H locs ls hn119 b7_119 j0_119 hI hP hD hS hl
                            have hzl := ZE_lt j0_119
                            refine lv_iload hx hb dX9_together_119 (lv_at hl 1 rfl) ?_
                            refine lv_iload hx hb dX9_together_121 (lv_at hl 0 rfl) ?_
                            refine lv_ishr hx hb dX9_together_123 ?_
                            refine lv_topi (fun x158 ex158 => ?_)
                            have tx158 := z_shr (x := x154) rfl (by omega) v7_119
                            rw [← ex158] at tx158
                            refine lv_iconst (v := 1) hx hb dX9_together_124 (by decide) ?_
                            refine lv_iand hx hb dX9_together_125 ?_
                            refine lv_topi (fun x159 ex159 => ?_)
                            have tx159 := z_andr (x := x158) (y := 1) (by decide : (1 : Int32).toInt = 1) (by omega)
                            rw [← ex159] at tx159
                            have hgb := zb_get (x := x154) (y := v7_119) (p := v7_119.toInt.toNat) (by omega) (by omega) (by omega)
                            rw [← ex158, ← ex159] at hgb
                            refine lv_if_ne (tgt := 138) hx hb dX9_together_126 (by decide) (fun c160 => ?_) (fun c160 => ?_)
                            · skip
                              have c160 : ¬ (x159.toInt = 0) := fun q => c160 ((z_eq rfl (by decide : (0 : Int32).toInt = 0)).mpr q)
                              refine lv_iload_n hx hb dX9_together_138 rfl (lv_at hl 7 rfl) ?_
                              refine lv_if_ne (tgt := 147) hx hb dX9_together_139 (by decide) (fun c161 => ?_) (fun c161 => ?_)
                              · skip
                                have c161 : ¬ (wh.toInt = 0) := fun q => c161 ((z_eq rfl (by decide : (0 : Int32).toInt = 0)).mpr q)
                                refine lv_iload_n hx hb dX9_together_147 rfl (lv_at hl 7 rfl) ?_
                                refine lv_iconst (v := 1) hx hb dX9_together_148 (by decide) ?_
                                refine lv_icmp_ne (tgt := 157) hx hb dX9_together_149 (by decide) (fun c162 => ?_) (fun c162 => ?_)
                                · skip
                                  have c162 : ¬ (wh.toInt = 1) := fun q => c162 ((z_eq rfl (by decide : (1 : Int32).toInt = 1)).mpr q)
                                  refine lv_aload_n hx hb dX9_together_157 rfl (lv_at hl 5 rfl) ?_
                                  refine lv_iload hx hb dX9_together_158 (lv_at hl 3 rfl) ?_
                                  refine lv_iload hx hb dX9_together_160 (lv_at hl 0 rfl) ?_
                                  obtain ⟨bks164, lks165, gos166, shn167, tpd168, pl0169, ln0170, flt171, opn172, cmy173, wtg174, nm0175, mst176, sus177, cut178, h179, h180, h181, h182, h183, h184, h185, h186, h187, h188, h189, h190, h191, h192, h193, h194, h195, h196, h197, h198, hs163⟩ := a9_0 hI.1
                                  have hFc := zw_free hD hS hA
                                  refine va_calli (va_runV (As := [.int v4_26, .int v7_119]) (rest := []) ⟨hx, hb, hml, hown, hg⟩ (k_X9_maybe l g _ ad me ct157 v4_26 v7_119 (by first | omega | decide) (by first | omega | decide) hI) (cwV 2 hg (z_gV mm_1369 mm_1371 mm_92 mm_117 mm_1372) rfl rfl rfl (by decide +kernel) ⟨Nat.le_of_ble_eq_true rfl, Nat.le_of_ble_eq_true rfl⟩) ⟨(zA.pre [.ref (ad 0), .int v4_26, .int v7_119] hP hK hD hN).1, va_recv hK hP (ci := 9) (q0 := 0) rfl (zw_at (by omega) hs163), (zA.pre [.ref (ad 0), .int v4_26, .int v7_119] hP hK hD hN).2⟩ rfl rfl hl.1 rfl (lv_room (Nat.le_of_ble_eq_true rfl)) dX9_together_162 ⟨Nat.le_of_ble_eq_true rfl, Nat.le_of_ble_eq_true rfl⟩) hS (fun q _ h => hFc q h) hFc (fun r199 _ t H1 locs ht hvm hr199 hB hz1 hk1 hS => ?_)
                                  obtain ⟨ct200, hP1, hD1, hI, hk201, hk202, hk203, hk204⟩ := hB
                                  rw [ht] at hP1
                                  have hD := hD1.weaken (fun _ _ _ h => hFc _ h)
                                  generalize H1 = H at hP1 hS ⊢
                                  have hP := hP1
                                  refine W.widen (k := 0) (n := 0) (Nat.le_refl _) (Nat.le_refl _) ?_
                                  have hs205 : ct200 0 = .inr (9, [.int me, .ref (ad 1), .ref (ad 2), .ref (ad 3), .ref (ad 4), .int bks164, .int lks165, .int gos166, .int shn167, .ref (ad 5), .ref (ad 6), .ref (ad 7), .ref (ad 8), .ref (ad 9), .ref (ad 10), .ref (ad 11), .int tpd168, .int pl0169, .int ln0170, .int flt171, .int opn172, .int cmy173, .int wtg174, .int nm0175, .ref (ad 12), .ref (ad 13), .ref (ad 14), .ref (ad 15), .ref (ad 16), .ref (ad 17), .ref (ad 18), .ref (ad 19), .ref (ad 20), .ref (ad 21), .ref (ad 22), .ref (ad 23), .ref (ad 24), .ref (ad 25), .ref (ad 26), .ref (ad 27), .int mst176, .int sus177, .ref (ad 28), .ref (ad 29), .ref (ad 30), .ref (ad 31), .int cut178]) := hk201.trans hs163
                                  obtain ⟨hr199_0, hr199_1⟩ := hr199
                                  have hr199_0 : 0 ≤ r199.toInt := hr199_0
                                  have hr199_1 : r199.toInt ≤ 65535 := hr199_1
                                  exact W.iret (v := r199) hx hb hr (fun t ht hW => ⟨⟨r199, (), rfl, trivial, ct200, by rw [ht]; exact hP, hD, hI⟩, hS.F ht⟩) hS.2.2 dX9_together_165
                                · skip
                                  have c162 : wh.toInt = 1 := (z_eq rfl (by decide : (1 : Int32).toInt = 1)).mp c162
                                  refine lv_iload hx hb dX9_together_152 (lv_at hl 0 rfl) ?_
                                  refine lv_goto (tgt := 165) hx hb dX9_together_154 (by decide) ?_
                                  exact W.iret (v := v7_119) hx hb hr (fun t ht hW => ⟨⟨v7_119, (), rfl, trivial, ct157, by rw [ht]; exact hP, hD, hI⟩, hS.F ht⟩) hS.2.2 dX9_together_165
                              · skip
                                have c161 : wh.toInt = 0 := (z_eq rfl (by decide : (0 : Int32).toInt = 0)).mp c161
                                refine lv_iload hx hb dX9_together_142 (lv_at hl 3 rfl) ?_
                                refine lv_goto (tgt := 165) hx hb dX9_together_144 (by decide) ?_
                                exact W.iret (v := v4_26) hx hb hr (fun t ht hW => ⟨⟨v4_26, (), rfl, trivial, ct157, by rw [ht]; exact hP, hD, hI⟩, hS.F ht⟩) hS.2.2 dX9_together_165
                            · skip
                              have c160 : x159.toInt = 0 := (z_eq rfl (by decide : (0 : Int32).toInt = 0)).mp c160
                              have hzn := ZE_next j0_119 (fun q => by
                                rcases hgb with ⟨g1, g2⟩ | ⟨g1, g2⟩
                                · omega
                                · exact g2 q)
                              have hzl2 := ZE_lt hzn
                              refine lv_iload hx hb dX9_together_129 (lv_at hl 0 rfl) ?_
                              refine lv_iconst (v := 1) hx hb dX9_together_131 (by decide) ?_
                              refine lv_iadd hx hb dX9_together_132 ?_
                              refine lv_topi (fun x206 ex206 => ?_)
                              have tx206 : x206.toInt = v7_119.toInt + 1 := by rw [ex206]; exact z_add rfl (by decide : (1 : Int32).toInt = 1) (by omega) (by omega)
                              refine lv_istore (lv' := [(7, .int x206), (6, .int x154), (5, .int 1), (4, .int v4_26), (3, .int shn13), (0, .ref (ad 0)), (1, .int k), (2, .int wh)]) hx hb dX9_together_133 hl (by decide) rfl (fun ls hl => ?_)
                              rw [← tx206] at hzn
                              refine lv_goto (tgt := 119) hx hb dX9_together_135 (by decide) ?_
                              exact ih119 x206 ct157 _ _ ls (by omega) (by first | assumption | omega | decide) (by first | assumption | omega | decide) hI hP hD hS (lv_sub hl [0, 1, 2, 3, 4, 5, 6, 7] rfl)
                        have hze : ZE x154 ((0 : Int32)).toInt := ZE_start (by omega) (by omega) (by omega)
                        exact loop119 ((8 - (0 : Int32).toInt : Int).toNat + 1) (0 : Int32) ct150 _ _ ls (by omega) (by first | assumption | omega | decide) (by first | assumption | omega | decide) hI hP hD hS (lv_sub hl [0, 1, 2, 3, 4, 5, 6, 7] rfl)
                      · skip
                        have c156 : x154.toInt = 0 := (z_eq rfl (by decide : (0 : Int32).toInt = 0)).mp c156
                        refine lv_goto (tgt := 166) hx hb dX9_together_113 (by decide) ?_
                        obtain ⟨x207, ex207⟩ : ∃ y : Int32, y = v4_26 + 1 := ⟨_, rfl⟩
                        have tx207 : x207.toInt = v4_26.toInt + 1 := by rw [ex207]; exact z_add rfl (by decide : (1 : Int32).toInt = 1) (by omega) (by omega)
                        refine lv_iinc (v := x207) (lv' := [(4, .int x207), (6, .int x154), (5, .int 1), (3, .int shn13), (0, .ref (ad 0)), (1, .int k), (2, .int wh)]) hx hb dX9_together_166 hl (k := 2) rfl (by rw [ex207]; rfl) (by decide) rfl (fun ls hl => ?_)
                        refine lv_goto (tgt := 26) hx hb dX9_together_169 (by decide) ?_
                        exact ih26 x207 ct150 _ _ ls (by omega) (by first | assumption | omega | decide) hI hP hD hS (lv_sub hl [0, 3, 4, 5, 6] rfl)
                · skip
                  have c86 : x85.toInt = 0 := (z_eq rfl (by decide : (0 : Int32).toInt = 0)).mp c86
                  refine lv_goto (tgt := 166) hx hb dX9_together_44 (by decide) ?_
                  obtain ⟨x208, ex208⟩ : ∃ y : Int32, y = v4_26 + 1 := ⟨_, rfl⟩
                  have tx208 : x208.toInt = v4_26.toInt + 1 := by rw [ex208]; exact z_add rfl (by decide : (1 : Int32).toInt = 1) (by omega) (by omega)
                  refine lv_iinc (v := x208) (lv' := [(4, .int x208), (3, .int shn13), (0, .ref (ad 0)), (1, .int k), (2, .int wh)]) hx hb dX9_together_166 hl (k := 0) rfl (by rw [ex208]; rfl) (by decide) rfl (fun ls hl => ?_)
                  refine lv_goto (tgt := 26) hx hb dX9_together_169 (by decide) ?_
                  exact ih26 x208 ct45 _ _ ls (by omega) (by first | assumption | omega | decide) hI hP hD hS (lv_sub hl [0, 1, 2, 3, 4] rfl)
          exact loop26 ((4 - (0 : Int32).toInt : Int).toNat + 1) (0 : Int32) ct _ _ ls (by omega) (by first | assumption | omega | decide) hI hP hD hS (lv_sub hl [0, 1, 2, 3, 4] rfl)
        · skip
          exact absurd c8 (by decide)
      · skip
        obtain ⟨rfl, h209⟩ := hr5
        replace h209 : ¬ ((0 : Int) ≤ wh.toInt ∧ wh.toInt ≤ (2 : Int)) := h209
        refine lv_if_ne (tgt := 18) hx hb dX9_together_13 (by decide) (fun c210 => ?_) (fun c210 => ?_)
        · skip
          exact absurd c210 (by decide)
        · skip
          refine lv_iconst (v := (-1)) hx hb dX9_together_16 (by decide) ?_
          have q211 : ((-1) : Int32).toInt = -1 := by decide
          exact W.iret (v := (-1)) hx hb hr (fun t ht hW => ⟨⟨(-1), (), rfl, trivial, ct, by rw [ht]; exact hP, hD, hI⟩, hS.F ht⟩) hS.2.2 dX9_together_17
  · skip
    obtain ⟨rfl, h212⟩ := hr1
    replace h212 : ¬ (1 ≤ k.toInt ∧ k.toInt ≤ 16) := h212
    refine lv_if_eq (tgt := 16) hx hb dX9_together_4 (by decide) (fun c213 => ?_) (fun c213 => ?_)
    · skip
      refine lv_iconst (v := (-1)) hx hb dX9_together_16 (by decide) ?_
      have q214 : ((-1) : Int32).toInt = -1 := by decide
      exact W.iret (v := (-1)) hx hb hr (fun t ht hW => ⟨⟨(-1), (), rfl, trivial, ct, by rw [ht]; exact hP, hD, hI⟩, hS.F ht⟩) hS.2.2 dX9_together_17
    · skip
      exact absurd c213 (by decide)

set_option maxHeartbeats 4000000 in
set_option maxRecDepth 100000 in
theorem k_X9_loss (l : Launch) (g : zG) (ad : Nat → Nat) (me : Int32) (ct : Nat → va_E) (b : Int32) (hI : IR g ad me ct) : Met l yX9_loss (zW yX9_loss cX9_loss 5 (some .int)) ({ frames := 3, cells := 0, slots := 0, locals := 71 }) (va_Pc [.ref (ad 0), .int b] (zR g (zw 32 ad ct))) (vp_Si (fun r : Int32 => (True))) 0 0 (fun _ => False) := by
  refine Met.ofW (cc := cX9_loss) (maxL := 5) (ret := (some .int)) (by decide) rfl ?_
  intro p e s m args below meth c s₁ B hml hv
  obtain ⟨rfl, hP, hK, hN⟩ := hv
  have hx := B.exec
  have hb := B.bytes
  have hr := B.returns
  have hg := zW.law (atoms_spec (ws := (zW yX9_loss cX9_loss 5 (some .int))) B.pre)
  have hown : s.vm.findClass RX9 = some m.cls := findClass_of_methodNamed B.named
  have hlocks := B.notSynchronized
  have hpe0 := hI.1.1
  have hl := lv_entry ([.ref (ad 0), .int b]) (n := 5) (Nat.le_of_ble_eq_true rfl)
  rw [lg_entry_eq]
  generalize (lg_sl ([.ref (ad 0), .int b]) ++ List.replicate (5 - (lg_sl ([.ref (ad 0), .int b])).length) Slot.unset).toArray = ls at hl ⊢
  have hl : lv_has ls 5 [(0, .ref (ad 0)), (1, .int b)] := hl
  have rg_b := z_rng b
  refine lv_aload_n hx hb dX9_loss_0 rfl (lv_at hl 0 rfl) ?_
  refine lv_iload_n hx hb dX9_loss_1 rfl (lv_at hl 1 rfl) ?_
  obtain ⟨bks2, lks3, gos4, shn5, tpd6, pl07, ln08, flt9, opn10, cmy11, wtg12, nm013, mst14, sus15, cut16, h17, h18, h19, h20, h21, h22, h23, h24, h25, h26, h27, h28, h29, h30, h31, h32, h33, h34, h35, h36, hs1⟩ := a9_0 hI.1
  refine zc_i (va_runV (As := [.int b]) (rest := []) ⟨hx, hb, hml, hown, hg⟩ (k_X9_isBook l g ad me ct b hI) (cwV 1 hg (z_gV mm_1174 mm_1176 mm_58 mm_117 mm_1177) rfl rfl rfl (by decide +kernel) ⟨Nat.le_of_ble_eq_true rfl, Nat.le_of_ble_eq_true rfl⟩) ⟨(zR.pre [.ref (ad 0), .int b] hP hK hN).1, va_recv hK hP (ci := 9) (q0 := 0) rfl (zw_at (by omega) hs1), (zR.pre [.ref (ad 0), .int b] hP hK hN).2⟩ rfl rfl hl.1 rfl (lv_room (Nat.le_of_ble_eq_true rfl)) dX9_loss_2 ⟨Nat.le_of_ble_eq_true rfl, Nat.le_of_ble_eq_true rfl⟩) (fun r37 hr37 => ?_)
  rcases hr37 with hr37 | hr37
  · skip
    obtain ⟨rfl, h38, h39⟩ := hr37
    replace h38 : 0 ≤ b.toInt := h38
    replace h39 : b.toInt ≤ 3 := h39
    refine lv_if_ne (tgt := 10) hx hb dX9_loss_5 (by decide) (fun c40 => ?_) (fun c40 => ?_)
    · skip
      refine lv_iconst (v := 0) hx hb dX9_loss_10 (by decide) ?_
      refine lv_istore_n (lv' := [(2, .int 0), (0, .ref (ad 0)), (1, .int b)]) hx hb dX9_loss_11 rfl hl (by decide) rfl (fun ls hl => ?_)
      refine lv_iconst (v := 0) hx hb dX9_loss_12 (by decide) ?_
      refine lv_istore_n (lv' := [(3, .int 0), (2, .int 0), (0, .ref (ad 0)), (1, .int b)]) hx hb dX9_loss_13 rfl hl (by decide) rfl (fun ls hl => ?_)
      have loop14 : ∀ (n14 : Nat) (v3_14 : Int32) (v2_14 : Int32) (ls : Array Slot), ((8 - v3_14.toInt : Int).toNat < n14) → (0 ≤ v3_14.toInt ∧ v3_14.toInt ≤ 8) → lv_has ls 5 [(3, .int v3_14), (2, .int v2_14), (0, .ref (ad 0)), (1, .int b)] → W p l e (headSpec (zW yX9_loss cX9_loss 5 (some .int)) ({ frames := 3, cells := 0, slots := 0, locals := 71 })).room s m ([.ref (ad 0), .int b] : List Value).toArray below meth c s.heap [] 0 0 (MQ below (vp_Si (fun r : Int32 => (True))) ([.ref (ad 0), .int b] : List Value).toArray s 0 0 (fun _ => False)) (F0 m 14 ls []) := by
        intro n14
        induction n14 with
        | zero =>
          intro v3_14 v2_14 ls hn14 b3_14 hl
          exact absurd hn14 (Nat.not_lt_zero _)
        | succ n14 ih14 =>
          intro v3_14 v2_14 ls hn14 b3_14 hl
          refine lv_iload_n hx hb dX9_loss_14 rfl (lv_at hl 0 rfl) ?_
          refine lv_aload_n hx hb dX9_loss_15 rfl (lv_at hl 2 rfl) ?_
          refine va_get (D := g.1) (ci := 9) (v := .ref (ad 5)) (C := RX9) (T := TX9) (N := 47) hx hb hg inG9 hown hK hP 0 (zw_at (by omega) hs1) rfl 9 (by decide) (hg _ mm_967) (fun _ h9 => h9) rfl dX9_loss_16 ?_
          refine lv_iload_n hx hb dX9_loss_19 rfl (lv_at hl 3 rfl) ?_
          obtain ⟨f42, hp43, hs41⟩ := a9_5 hI.1
          refine va_iald hx hb hK hP 5 0 (zw_at (by omega) hs41) rfl (z_in rfl (by omega) (by omega)) dX9_loss_20 ?_
          refine lv_topi (fun y44 ey44 => ?_)
          have hy44 := hp43 _ (z_clt (x := b) rfl (by omega) (by omega))
          rw [← ey44] at hy44
          have hy44 : 0 ≤ y44.toInt ∧ y44.toInt ≤ 8 := hy44
          refine lv_icmp_ge (tgt := 82) hx hb dX9_loss_21 (by decide) (fun c45 => ?_) (fun c45 => ?_)
          · skip
            have c45 : y44.toInt ≤ v3_14.toInt := (z_le rfl rfl).mp c45
            refine lv_iload_n hx hb dX9_loss_82 rfl (lv_at hl 1 rfl) ?_
            exact W.iret (v := v2_14) hx hb hr (fun t ht hW => ⟨v2_14, rfl, trivial, ht⟩) (fun q hq => by cases hq) dX9_loss_83
          · skip
            have c45 : ¬ (y44.toInt ≤ v3_14.toInt) := fun q => c45 ((z_le rfl rfl).mpr q)
            refine lv_iconst (v := 0) hx hb dX9_loss_24 (by decide) ?_
            refine lv_istore (lv' := [(4, .int 0), (3, .int v3_14), (2, .int v2_14), (0, .ref (ad 0)), (1, .int b)]) hx hb dX9_loss_25 hl (by decide) rfl (fun ls hl => ?_)
            have loop27 : ∀ (n27 : Nat) (v4_27 : Int32) (v2_27 : Int32) (ls : Array Slot), ((4 - v4_27.toInt : Int).toNat < n27) → (0 ≤ v4_27.toInt ∧ v4_27.toInt ≤ 4) → lv_has ls 5 [(4, .int v4_27), (3, .int v3_14), (2, .int v2_27), (0, .ref (ad 0)), (1, .int b)] → W p l e (headSpec (zW yX9_loss cX9_loss 5 (some .int)) ({ frames := 3, cells := 0, slots := 0, locals := 71 })).room s m ([.ref (ad 0), .int b] : List Value).toArray below meth c s.heap [] 0 0 (MQ below (vp_Si (fun r : Int32 => (True))) ([.ref (ad 0), .int b] : List Value).toArray s 0 0 (fun _ => False)) (F0 m 27 ls []) := by
              intro n27
              induction n27 with
              | zero =>
                intro v4_27 v2_27 ls hn27 b4_27 hl
                exact absurd hn27 (Nat.not_lt_zero _)
              | succ n27 ih27 =>
                intro v4_27 v2_27 ls hn27 b4_27 hl
                refine lv_iload hx hb dX9_loss_27 (lv_at hl 0 rfl) ?_
                refine lv_iconst (v := 4) hx hb dX9_loss_29 (by decide) ?_
                refine lv_icmp_ge (tgt := 76) hx hb dX9_loss_30 (by decide) (fun c46 => ?_) (fun c46 => ?_)
                · skip
                  have c46 : 4 ≤ v4_27.toInt := (z_le (by decide : (4 : Int32).toInt = 4) rfl).mp c46
                  obtain ⟨x47, ex47⟩ : ∃ y : Int32, y = v3_14 + 1 := ⟨_, rfl⟩
                  have tx47 : x47.toInt = v3_14.toInt + 1 := by rw [ex47]; exact z_add rfl (by decide : (1 : Int32).toInt = 1) (by omega) (by omega)
                  refine lv_iinc (v := x47) (lv' := [(3, .int x47), (4, .int v4_27), (2, .int v2_27), (0, .ref (ad 0)), (1, .int b)]) hx hb dX9_loss_76 hl (k := 1) rfl (by rw [ex47]; rfl) (by decide) rfl (fun ls hl => ?_)
                  refine lv_goto (tgt := 14) hx hb dX9_loss_79 (by decide) ?_
                  exact ih14 x47 v2_27 ls (by omega) (by first | assumption | omega | decide) (lv_sub hl [0, 2, 3, 4] rfl)
                · skip
                  have c46 : ¬ (4 ≤ v4_27.toInt) := fun q => c46 ((z_le (by decide : (4 : Int32).toInt = 4) rfl).mpr q)
                  refine lv_aload_n hx hb dX9_loss_33 rfl (lv_at hl 3 rfl) ?_
                  refine va_get (D := g.1) (ci := 9) (v := .ref (ad 10)) (C := RX9) (T := TX9) (N := 47) hx hb hg inG9 hown hK hP 0 (zw_at (by omega) hs1) rfl 14 (by decide) (hg _ mm_972) (fun _ h9 => h9) rfl dX9_loss_34 ?_
                  refine lv_iload_n hx hb dX9_loss_37 rfl (lv_at hl 4 rfl) ?_
                  refine lv_iload_n hx hb dX9_loss_38 rfl (lv_at hl 1 rfl) ?_
                  refine zc_i (va_runS (As := [.int b, .int v3_14]) (rest := [.ref (ad 10)]) ⟨hx, hb, hml, hown, hg⟩ (k_X9_at l g ad me ct b v3_14 (by first | omega | decide) (by first | omega | decide) hI) (va_cwS 2 hg (z_gS mm_1159 mm_1160 mm_117 mm_1161) rfl rfl rfl (by decide +kernel) ⟨Nat.le_of_ble_eq_true rfl, Nat.le_of_ble_eq_true rfl⟩) (zR.pre [.int b, .int v3_14] hP hK hN) rfl rfl hl.1 rfl (lv_room (Nat.le_of_ble_eq_true rfl)) dX9_loss_39 ⟨Nat.le_of_ble_eq_true rfl, Nat.le_of_ble_eq_true rfl⟩) (fun r48 hr48 => ?_)
                  have hr48_0 := hr48
                  have hr48_0 : r48.toInt = 8 * b.toInt + v3_14.toInt := hr48_0
                  obtain ⟨f50, hp51, hs49⟩ := a9_10 hI.1
                  refine va_zald hx hb hK hP 10 3 (zw_at (by omega) hs49) rfl (z_in rfl (by omega) (by omega)) dX9_loss_42 ?_
                  refine lv_topi (fun y52 ey52 => ?_)
                  have hy52 := hp51 _ (z_clt (x := r48) rfl (by omega) (by omega))
                  rw [← ey52] at hy52
                  have hy52 : y52 = 0 ∨ y52 = 1 := hy52
                  have by52 := z_b01 hy52
                  refine lv_if_ne (tgt := 76) hx hb dX9_loss_43 (by decide) (fun c53 => ?_) (fun c53 => ?_)
                  · skip
                    have c53 : ¬ (y52.toInt = 0) := fun q => c53 ((z_eq rfl (by decide : (0 : Int32).toInt = 0)).mpr q)
                    obtain ⟨x54, ex54⟩ : ∃ y : Int32, y = v3_14 + 1 := ⟨_, rfl⟩
                    have tx54 : x54.toInt = v3_14.toInt + 1 := by rw [ex54]; exact z_add rfl (by decide : (1 : Int32).toInt = 1) (by omega) (by omega)
                    refine lv_iinc (v := x54) (lv' := [(3, .int x54), (4, .int v4_27), (2, .int v2_27), (0, .ref (ad 0)), (1, .int b)]) hx hb dX9_loss_76 hl (k := 1) rfl (by rw [ex54]; rfl) (by decide) rfl (fun ls hl => ?_)
                    refine lv_goto (tgt := 14) hx hb dX9_loss_79 (by decide) ?_
                    exact ih14 x54 v2_27 ls (by omega) (by first | assumption | omega | decide) (lv_sub hl [0, 2, 3, 4] rfl)
                  · skip
                    have c53 : y52.toInt = 0 := (z_eq rfl (by decide : (0 : Int32).toInt = 0)).mp c53
                    refine lv_iload_n hx hb dX9_loss_46 rfl (lv_at hl 2 rfl) ?_
                    refine lv_aload_n hx hb dX9_loss_47 rfl (lv_at hl 3 rfl) ?_
                    refine lv_iload hx hb dX9_loss_48 (lv_at hl 0 rfl) ?_
                    refine lv_aload_n hx hb dX9_loss_50 rfl (lv_at hl 3 rfl) ?_
                    refine va_get (D := g.1) (ci := 9) (v := .ref (ad 7)) (C := RX9) (T := TX9) (N := 47) hx hb hg inG9 hown hK hP 0 (zw_at (by omega) hs1) rfl 11 (by decide) (hg _ mm_969) (fun _ h9 => h9) rfl dX9_loss_51 ?_
                    refine lv_iconst (v := 4) hx hb dX9_loss_54 (by decide) ?_
                    refine lv_iload_n hx hb dX9_loss_55 rfl (lv_at hl 4 rfl) ?_
                    refine lv_iload_n hx hb dX9_loss_56 rfl (lv_at hl 1 rfl) ?_
                    refine zc_i (va_runS (As := [.int b, .int v3_14]) (rest := [.int 4, .ref (ad 7), .int v4_27, .ref (ad 0), .int v2_27]) ⟨hx, hb, hml, hown, hg⟩ (k_X9_at l g ad me ct b v3_14 (by first | omega | decide) (by first | omega | decide) hI) (va_cwS 2 hg (z_gS mm_1159 mm_1160 mm_117 mm_1161) rfl rfl rfl (by decide +kernel) ⟨Nat.le_of_ble_eq_true rfl, Nat.le_of_ble_eq_true rfl⟩) (zR.pre [.int b, .int v3_14] hP hK hN) rfl rfl hl.1 rfl (lv_room (Nat.le_of_ble_eq_true rfl)) dX9_loss_57 ⟨Nat.le_of_ble_eq_true rfl, Nat.le_of_ble_eq_true rfl⟩) (fun r55 hr55 => ?_)
                    have hr55_0 := hr55
                    have hr55_0 : r55.toInt = 8 * b.toInt + v3_14.toInt := hr55_0
                    refine lv_imul hx hb dX9_loss_60 ?_
                    refine lv_topi (fun x56 ex56 => ?_)
                    have tx56 : x56.toInt = 4 * r55.toInt := by rw [ex56]; exact z_mul (by decide : (4 : Int32).toInt = 4) rfl (by omega) (by omega)
                    refine lv_iload hx hb dX9_loss_61 (lv_at hl 0 rfl) ?_
                    refine lv_iadd hx hb dX9_loss_63 ?_
                    refine lv_topi (fun x57 ex57 => ?_)
                    have tx57 : x57.toInt = x56.toInt + v4_27.toInt := by rw [ex57]; exact z_add rfl rfl (by omega) (by omega)
                    obtain ⟨f59, hp60, hs58⟩ := a9_7 hI.1
                    refine va_iald hx hb hK hP 7 0 (zw_at (by omega) hs58) rfl (z_in rfl (by omega) (by omega)) dX9_loss_64 ?_
                    refine lv_topi (fun y61 ey61 => ?_)
                    have hy61 := hp60 _ (z_clt (x := x57) rfl (by omega) (by omega))
                    rw [← ey61] at hy61
                    have hy61 : 0 ≤ y61.toInt ∧ y61.toInt ≤ 32 := hy61
                    refine zc_i (va_runV (As := [.int v4_27, .int y61]) (rest := [.int v2_27]) ⟨hx, hb, hml, hown, hg⟩ (k_X9_lossAt l g ad me ct v4_27 y61 (by first | omega | decide) hI) (cwV 2 hg (z_gV mm_1452 mm_1454 mm_103 mm_117 mm_1455) rfl rfl rfl (by decide +kernel) ⟨Nat.le_of_ble_eq_true rfl, Nat.le_of_ble_eq_true rfl⟩) ⟨(zR.pre [.ref (ad 0), .int v4_27, .int y61] hP hK hN).1, va_recv hK hP (ci := 9) (q0 := 0) rfl (zw_at (by omega) hs1), (zR.pre [.ref (ad 0), .int v4_27, .int y61] hP hK hN).2⟩ rfl rfl hl.1 rfl (lv_room (Nat.le_of_ble_eq_true rfl)) dX9_loss_65 ⟨Nat.le_of_ble_eq_true rfl, Nat.le_of_ble_eq_true rfl⟩) (fun r62 hr62 => ?_)
                    refine lv_iadd hx hb dX9_loss_68 ?_
                    refine lv_topi (fun x63 ex63 => ?_)
                    refine lv_istore_n (lv' := [(2, .int x63), (4, .int v4_27), (3, .int v3_14), (0, .ref (ad 0)), (1, .int b)]) hx hb dX9_loss_69 rfl hl (by decide) rfl (fun ls hl => ?_)
                    obtain ⟨x64, ex64⟩ : ∃ y : Int32, y = v4_27 + 1 := ⟨_, rfl⟩
                    have tx64 : x64.toInt = v4_27.toInt + 1 := by rw [ex64]; exact z_add rfl (by decide : (1 : Int32).toInt = 1) (by omega) (by omega)
                    refine lv_iinc (v := x64) (lv' := [(4, .int x64), (2, .int x63), (3, .int v3_14), (0, .ref (ad 0)), (1, .int b)]) hx hb dX9_loss_70 hl (k := 1) rfl (by rw [ex64]; rfl) (by decide) rfl (fun ls hl => ?_)
                    refine lv_goto (tgt := 27) hx hb dX9_loss_73 (by decide) ?_
                    exact ih27 x64 x63 ls (by omega) (by first | assumption | omega | decide) (lv_sub hl [0, 2, 1, 3, 4] rfl)
            exact loop27 ((4 - (0 : Int32).toInt : Int).toNat + 1) (0 : Int32) v2_14 ls (by omega) (by first | assumption | omega | decide) (lv_sub hl [0, 1, 2, 3, 4] rfl)
      exact loop14 ((8 - (0 : Int32).toInt : Int).toNat + 1) (0 : Int32) (0 : Int32) ls (by omega) (by first | assumption | omega | decide) (lv_sub hl [0, 1, 2, 3] rfl)
    · skip
      exact absurd c40 (by decide)
  · skip
    obtain rfl := hr37
    refine lv_if_ne (tgt := 10) hx hb dX9_loss_5 (by decide) (fun c65 => ?_) (fun c65 => ?_)
    · skip
      exact absurd c65 (by decide)
    · skip
      refine lv_iconst (v := (-1)) hx hb dX9_loss_8 (by decide) ?_
      have q66 : ((-1) : Int32).toInt = -1 := by decide
      exact W.iret (v := (-1)) hx hb hr (fun t ht hW => ⟨(-1), rfl, trivial, ht⟩) (fun q hq => by cases hq) dX9_loss_9

set_option maxHeartbeats 4000000 in
set_option maxRecDepth 100000 in
theorem k_X9_tapeNumber (l : Launch) (g : zG) (ad : Nat → Nat) (me : Int32) (ct : Nat → va_E) (i : Int32) (hl_i : 0 ≤ i.toInt ∧ i.toInt ≤ 3) (hI : IR g ad me ct) : Met l yX9_tapeNumber (zW yX9_tapeNumber cX9_tapeNumber 4 (some .int)) ({ frames := 0, cells := 0, slots := 0, locals := 0 }) (va_Pc [.ref (ad 0), .int i] (zR g (zw 32 ad ct))) (vp_Si (fun r : Int32 => (True))) 0 0 (fun _ => False) := by
  refine Met.ofW (cc := cX9_tapeNumber) (maxL := 4) (ret := (some .int)) (by decide) rfl ?_
  intro p e s m args below meth c s₁ B hml hv
  obtain ⟨rfl, hP, hK, hN⟩ := hv
  have hx := B.exec
  have hb := B.bytes
  have hr := B.returns
  have hg := zW.law (atoms_spec (ws := (zW yX9_tapeNumber cX9_tapeNumber 4 (some .int))) B.pre)
  have hown : s.vm.findClass RX9 = some m.cls := findClass_of_methodNamed B.named
  have hlocks := B.notSynchronized
  have hpe0 := hI.1.1
  have hl := lv_entry ([.ref (ad 0), .int i]) (n := 4) (Nat.le_of_ble_eq_true rfl)
  rw [lg_entry_eq]
  generalize (lg_sl ([.ref (ad 0), .int i]) ++ List.replicate (4 - (lg_sl ([.ref (ad 0), .int i])).length) Slot.unset).toArray = ls at hl ⊢
  have hl : lv_has ls 4 [(0, .ref (ad 0)), (1, .int i)] := hl
  refine lv_iconst (v := 0) hx hb dX9_tapeNumber_0 (by decide) ?_
  refine lv_istore_n (lv' := [(2, .int 0), (0, .ref (ad 0)), (1, .int i)]) hx hb dX9_tapeNumber_1 rfl hl (by decide) rfl (fun ls hl => ?_)
  refine lv_iconst (v := 4) hx hb dX9_tapeNumber_2 (by decide) ?_
  refine lv_iload_n hx hb dX9_tapeNumber_3 rfl (lv_at hl 2 rfl) ?_
  refine lv_imul hx hb dX9_tapeNumber_4 ?_
  refine lv_topi (fun x1 ex1 => ?_)
  have tx1 : x1.toInt = 4 * i.toInt := by rw [ex1]; exact z_mul (by decide : (4 : Int32).toInt = 4) rfl (by omega) (by omega)
  refine lv_istore_n (lv' := [(3, .int x1), (2, .int 0), (0, .ref (ad 0)), (1, .int i)]) hx hb dX9_tapeNumber_5 rfl hl (by decide) rfl (fun ls hl => ?_)
  have loop6 : ∀ (n6 : Nat) (v3_6 : Int32) (v2_6 : Int32) (ls : Array Slot), ((16 - v3_6.toInt : Int).toNat < n6) → (0 ≤ v3_6.toInt ∧ v3_6.toInt ≤ 16) → lv_has ls 4 [(3, .int v3_6), (2, .int v2_6), (0, .ref (ad 0)), (1, .int i)] → W p l e (headSpec (zW yX9_tapeNumber cX9_tapeNumber 4 (some .int)) ({ frames := 0, cells := 0, slots := 0, locals := 0 })).room s m ([.ref (ad 0), .int i] : List Value).toArray below meth c s.heap [] 0 0 (MQ below (vp_Si (fun r : Int32 => (True))) ([.ref (ad 0), .int i] : List Value).toArray s 0 0 (fun _ => False)) (F0 m 6 ls []) := by
    intro n6
    induction n6 with
    | zero =>
      intro v3_6 v2_6 ls hn6 b3_6 hl
      exact absurd hn6 (Nat.not_lt_zero _)
    | succ n6 ih6 =>
      intro v3_6 v2_6 ls hn6 b3_6 hl
      refine lv_iload_n hx hb dX9_tapeNumber_6 rfl (lv_at hl 0 rfl) ?_
      refine lv_iconst (v := 4) hx hb dX9_tapeNumber_7 (by decide) ?_
      refine lv_iload_n hx hb dX9_tapeNumber_8 rfl (lv_at hl 3 rfl) ?_
      refine lv_imul hx hb dX9_tapeNumber_9 ?_
      refine lv_topi (fun x2 ex2 => ?_)
      obtain rfl : x1 = x2 := ex1.trans ex2.symm
      refine lv_iconst (v := 4) hx hb dX9_tapeNumber_10 (by decide) ?_
      refine lv_iadd hx hb dX9_tapeNumber_11 ?_
      refine lv_topi (fun x3 ex3 => ?_)
      have tx3 : x3.toInt = x1.toInt + 4 := by rw [ex3]; exact z_add rfl (by decide : (4 : Int32).toInt = 4) (by omega) (by omega)
      refine lv_icmp_ge (tgt := 37) hx hb dX9_tapeNumber_12 (by decide) (fun c4 => ?_) (fun c4 => ?_)
      · skip
        have c4 : x3.toInt ≤ v3_6.toInt := (z_le rfl rfl).mp c4
        refine lv_iload_n hx hb dX9_tapeNumber_37 rfl (lv_at hl 1 rfl) ?_
        exact W.iret (v := v2_6) hx hb hr (fun t ht hW => ⟨v2_6, rfl, trivial, ht⟩) (fun q hq => by cases hq) dX9_tapeNumber_38
      · skip
        have c4 : ¬ (x3.toInt ≤ v3_6.toInt) := fun q => c4 ((z_le rfl rfl).mpr q)
        refine lv_iload_n hx hb dX9_tapeNumber_15 rfl (lv_at hl 1 rfl) ?_
        refine lv_bipush (v := 8) hx hb dX9_tapeNumber_16 (by decide) ?_
        refine lv_ishl hx hb dX9_tapeNumber_18 ?_
        refine lv_topi (fun x5 ex5 => ?_)
        refine lv_aload_n hx hb dX9_tapeNumber_19 rfl (lv_at hl 2 rfl) ?_
        obtain ⟨bks7, lks8, gos9, shn10, tpd11, pl012, ln013, flt14, opn15, cmy16, wtg17, nm018, mst19, sus20, cut21, h22, h23, h24, h25, h26, h27, h28, h29, h30, h31, h32, h33, h34, h35, h36, h37, h38, h39, h40, h41, hs6⟩ := a9_0 hI.1
        refine va_get (D := g.1) (ci := 9) (v := .ref (ad 11)) (C := RX9) (T := TX9) (N := 47) hx hb hg inG9 hown hK hP 0 (zw_at (by omega) hs6) rfl 15 (by decide) (hg _ mm_973) (fun _ h9 => h9) rfl dX9_tapeNumber_20 ?_
        refine lv_iload_n hx hb dX9_tapeNumber_23 rfl (lv_at hl 0 rfl) ?_
        obtain ⟨f43, hs42⟩ := a9_11 hI.1
        refine va_bald hx hb hK hP 11 2 (zw_at (by omega) hs42) rfl (z_in rfl (by omega) (by omega)) dX9_tapeNumber_24 ?_
        refine lv_topi (fun y44 ey44 => ?_)
        refine lv_sipush (v := 255) hx hb dX9_tapeNumber_25 (by decide) ?_
        refine lv_iand hx hb dX9_tapeNumber_28 ?_
        refine lv_topi (fun x45 ex45 => ?_)
        have tx45 := z_andr (x := y44) (y := 255) (by decide : (255 : Int32).toInt = 255) (by omega)
        rw [← ex45] at tx45
        refine lv_ior hx hb dX9_tapeNumber_29 ?_
        refine lv_topi (fun x46 ex46 => ?_)
        refine lv_istore_n (lv' := [(2, .int x46), (3, .int v3_6), (0, .ref (ad 0)), (1, .int i)]) hx hb dX9_tapeNumber_30 rfl hl (by decide) rfl (fun ls hl => ?_)
        obtain ⟨x47, ex47⟩ : ∃ y : Int32, y = v3_6 + 1 := ⟨_, rfl⟩
        have tx47 : x47.toInt = v3_6.toInt + 1 := by rw [ex47]; exact z_add rfl (by decide : (1 : Int32).toInt = 1) (by omega) (by omega)
        refine lv_iinc (v := x47) (lv' := [(3, .int x47), (2, .int x46), (0, .ref (ad 0)), (1, .int i)]) hx hb dX9_tapeNumber_31 hl (k := 1) rfl (by rw [ex47]; rfl) (by decide) rfl (fun ls hl => ?_)
        refine lv_goto (tgt := 6) hx hb dX9_tapeNumber_34 (by decide) ?_
        exact ih6 x47 x46 ls (by omega) (by first | assumption | omega | decide) (lv_sub hl [0, 1, 2, 3] rfl)
  exact loop6 ((16 - x1.toInt : Int).toNat + 1) x1 (0 : Int32) ls (by omega) (by first | assumption | omega | decide) (lv_sub hl [0, 1, 2, 3] rfl)

set_option maxHeartbeats 4000000 in
set_option maxRecDepth 100000 in
theorem k_X9_check (l : Launch) (g : zG) (sz : Nat) (ad : Nat → Nat) (me : Int32) (ct : Nat → va_E) (b : Int32) (i : Int32) (n : Int32) (hI : IR g ad me ct) : Met l yX9_check (zW yX9_check cX9_check 5 (some .int)) ({ frames := 3, cells := 0, slots := 0, locals := 65 }) (va_Pc [.ref (ad 0), .int b, .int i, .int n] (zA g (zw 32 ad ct) sz)) (va_Qi (fun (r : Int32) (_ : Unit) => (True)) (fun _ t => ∃ ct2 : Nat → va_E, zP g (zw 32 ad ct2) t.heap ∧ va_D (va_A (zw 32 ad ct) sz) (zw 32 ad ct2) ∧ IR g ad me ct2) (va_A (zw 32 ad ct) sz)) 0 0 (va_A (zw 32 ad ct) sz) := by
  refine Met.ofW (cc := cX9_check) (maxL := 5) (ret := (some .int)) (by decide) rfl ?_
  intro p e s m args below meth c s₁ B hml hv
  obtain ⟨rfl, hsz, hP, hK, hD0, hN⟩ := hv
  have hx := B.exec
  have hb := B.bytes
  have hr := B.returns
  have hg := zW.law (atoms_spec (ws := (zW yX9_check cX9_check 5 (some .int))) B.pre)
  have hown : s.vm.findClass RX9 = some m.cls := findClass_of_methodNamed B.named
  have hlocks := B.notSynchronized
  have hpe0 := hI.1.1
  subst hsz
  have hD := hD0.self (sz := s.heap.size)
  generalize hAe : va_A (zw 32 ad ct) s.heap.size = A at hD ⊢
  have hA : ∀ q : Nat, s.heap.size ≤ q → A q := fun q h => by rw [← hAe]; exact Or.inr h
  have hS : va_S A s.heap s.heap [] := va_S.rf
  have hl := lv_entry ([.ref (ad 0), .int b, .int i, .int n]) (n := 5) (Nat.le_of_ble_eq_true rfl)
  rw [lg_entry_eq]
  generalize (lg_sl ([.ref (ad 0), .int b, .int i, .int n]) ++ List.replicate (5 - (lg_sl ([.ref (ad 0), .int b, .int i, .int n])).length) Slot.unset).toArray = ls at hl ⊢
  have hl : lv_has ls 5 [(0, .ref (ad 0)), (1, .int b), (2, .int i), (3, .int n)] := hl
  have rg_b := z_rng b
  have rg_i := z_rng i
  have rg_n := z_rng n
  refine lv_aload_n hx hb dX9_check_0 rfl (lv_at hl 0 rfl) ?_
  refine lv_iload_n hx hb dX9_check_1 rfl (lv_at hl 1 rfl) ?_
  refine lv_iload_n hx hb dX9_check_2 rfl (lv_at hl 2 rfl) ?_
  obtain ⟨bks2, lks3, gos4, shn5, tpd6, pl07, ln08, flt9, opn10, cmy11, wtg12, nm013, mst14, sus15, cut16, h17, h18, h19, h20, h21, h22, h23, h24, h25, h26, h27, h28, h29, h30, h31, h32, h33, h34, h35, h36, hs1⟩ := a9_0 hI.1
  refine zc_i (va_runV (As := [.int b, .int i]) (rest := []) ⟨hx, hb, hml, hown, hg⟩ (k_X9_isThere l g ad me ct b i hI) (cwV 2 hg (z_gV mm_1166 mm_1168 mm_56 mm_117 mm_1169) rfl rfl rfl (by decide +kernel) ⟨Nat.le_of_ble_eq_true rfl, Nat.le_of_ble_eq_true rfl⟩) ⟨(zR.pre [.ref (ad 0), .int b, .int i] hP hK hN).1, va_recv hK hP (ci := 9) (q0 := 0) rfl (zw_at (by omega) hs1), (zR.pre [.ref (ad 0), .int b, .int i] hP hK hN).2⟩ rfl rfl hl.1 rfl (lv_room (Nat.le_of_ble_eq_true rfl)) dX9_check_3 ⟨Nat.le_of_ble_eq_true rfl, Nat.le_of_ble_eq_true rfl⟩) (fun r37 hr37 => ?_)
  rcases hr37 with hr37 | hr37
  · skip
    obtain ⟨rfl, h38, h39⟩ := hr37
    replace h38 : 0 ≤ b.toInt ∧ b.toInt ≤ 3 := h38
    replace h39 : 0 ≤ i.toInt ∧ i.toInt ≤ 7 := h39
    refine lv_if_eq (tgt := 28) hx hb dX9_check_6 (by decide) (fun c40 => ?_) (fun c40 => ?_)
    · skip
      exact absurd c40 (by decide)
    · skip
      refine lv_iload_n hx hb dX9_check_9 rfl (lv_at hl 3 rfl) ?_
      refine lv_iconst (v := 0) hx hb dX9_check_10 (by decide) ?_
      refine lv_iconst (v := 4) hx hb dX9_check_11 (by decide) ?_
      refine zc_i (va_runS (As := [.int n, .int 0, .int 4]) (rest := []) ⟨hx, hb, hml, hown, hg⟩ (k_X9_in l g ad me ct n (0 : Int32) (4 : Int32) hI) (va_cwS 3 hg (z_gS mm_1109 mm_1110 mm_117 mm_1111) rfl rfl rfl (by decide +kernel) ⟨Nat.le_of_ble_eq_true rfl, Nat.le_of_ble_eq_true rfl⟩) (zR.pre [.int n, .int 0, .int 4] hP hK hN) rfl rfl hl.1 rfl (lv_room (Nat.le_of_ble_eq_true rfl)) dX9_check_12 ⟨Nat.le_of_ble_eq_true rfl, Nat.le_of_ble_eq_true rfl⟩) (fun r41 hr41 => ?_)
      rcases hr41 with hr41 | hr41
      · skip
        obtain ⟨rfl, h42, h43⟩ := hr41
        replace h42 : (0 : Int) ≤ n.toInt := h42
        replace h43 : n.toInt ≤ (4 : Int) := h43
        refine lv_if_eq (tgt := 28) hx hb dX9_check_15 (by decide) (fun c44 => ?_) (fun c44 => ?_)
        · skip
          exact absurd c44 (by decide)
        · skip
          refine lv_iload_n hx hb dX9_check_18 rfl (lv_at hl 3 rfl) ?_
          refine lv_aload_n hx hb dX9_check_19 rfl (lv_at hl 0 rfl) ?_
          refine va_get (D := g.1) (ci := 9) (v := .int tpd6) (C := RX9) (T := TX9) (N := 47) hx hb hg inG9 hown hK hP 0 (zw_at (by omega) hs1) rfl 16 (by decide) (hg _ mm_974) (fun _ h9 => h9) rfl dX9_check_20 ?_
          refine lv_iconst (v := 4) hx hb dX9_check_23 (by decide) ?_
          refine lv_idiv hx hb dX9_check_24 (by decide) ?_
          refine lv_topi (fun x45 ex45 => ?_)
          have tx45 := z_div (x := tpd6) (y := 4) rfl (by decide : (4 : Int32).toInt = 4) (by omega) (by omega)
          rw [← ex45] at tx45
          refine lv_icmp_le (tgt := 31) hx hb dX9_check_25 (by decide) (fun c46 => ?_) (fun c46 => ?_)
          · skip
            have c46 : n.toInt ≤ x45.toInt := (z_le rfl rfl).mp c46
            refine lv_aload_n hx hb dX9_check_31 rfl (lv_at hl 0 rfl) ?_
            refine lv_iconst (v := 0) hx hb dX9_check_32 (by decide) ?_
            refine va_put (D := g.1) (ci := 9) (v := .int 0) (ty := .int) (C := RX9) (T := TX9) (N := 47) hx hb hg inG9 tyX9 tyX9_ok nmX9 hown hK hP hD hS 0 (zw_at (by omega) hs1) rfl 16 (by decide) (hg _ mm_974) (fun _ h9 => h9) rfl (by decide +kernel) rfl rfl (Nat.le_of_ble_eq_true rfl) dX9_check_33 (fun H locs hP hD hS => ?_)
            have hP : zP g ((zw 32 ad ct).set 0 (ad 0, .inr (9, [.int me, .ref (ad 1), .ref (ad 2), .ref (ad 3), .ref (ad 4), .int bks2, .int lks3, .int gos4, .int shn5, .ref (ad 5), .ref (ad 6), .ref (ad 7), .ref (ad 8), .ref (ad 9), .ref (ad 10), .ref (ad 11), .int 0, .int pl07, .int ln08, .int flt9, .int opn10, .int cmy11, .int wtg12, .int nm013, .ref (ad 12), .ref (ad 13), .ref (ad 14), .ref (ad 15), .ref (ad 16), .ref (ad 17), .ref (ad 18), .ref (ad 19), .ref (ad 20), .ref (ad 21), .ref (ad 22), .ref (ad 23), .ref (ad 24), .ref (ad 25), .ref (ad 26), .ref (ad 27), .int mst14, .int sus15, .ref (ad 28), .ref (ad 29), .ref (ad 30), .ref (ad 31), .int cut16]))) H := hP
            have hD : va_D A ((zw 32 ad ct).set 0 (ad 0, .inr (9, [.int me, .ref (ad 1), .ref (ad 2), .ref (ad 3), .ref (ad 4), .int bks2, .int lks3, .int gos4, .int shn5, .ref (ad 5), .ref (ad 6), .ref (ad 7), .ref (ad 8), .ref (ad 9), .ref (ad 10), .ref (ad 11), .int 0, .int pl07, .int ln08, .int flt9, .int opn10, .int cmy11, .int wtg12, .int nm013, .ref (ad 12), .ref (ad 13), .ref (ad 14), .ref (ad 15), .ref (ad 16), .ref (ad 17), .ref (ad 18), .ref (ad 19), .ref (ad 20), .ref (ad 21), .ref (ad 22), .ref (ad 23), .ref (ad 24), .ref (ad 25), .ref (ad 26), .ref (ad 27), .int mst14, .int sus15, .ref (ad 28), .ref (ad 29), .ref (ad 30), .ref (ad 31), .int cut16]))) := hD
            rw [zw_set (by omega)] at hP hD
            obtain ⟨ct47, ec48⟩ : ∃ z : Nat → va_E, z = va_up ct 0 (.inr (9, [.int me, .ref (ad 1), .ref (ad 2), .ref (ad 3), .ref (ad 4), .int bks2, .int lks3, .int gos4, .int shn5, .ref (ad 5), .ref (ad 6), .ref (ad 7), .ref (ad 8), .ref (ad 9), .ref (ad 10), .ref (ad 11), .int 0, .int pl07, .int ln08, .int flt9, .int opn10, .int cmy11, .int wtg12, .int nm013, .ref (ad 12), .ref (ad 13), .ref (ad 14), .ref (ad 15), .ref (ad 16), .ref (ad 17), .ref (ad 18), .ref (ad 19), .ref (ad 20), .ref (ad 21), .ref (ad 22), .ref (ad 23), .ref (ad 24), .ref (ad 25), .ref (ad 26), .ref (ad 27), .int mst14, .int sus15, .ref (ad 28), .ref (ad 29), .ref (ad 30), .ref (ad 31), .int cut16])) := ⟨_, rfl⟩
            rw [← ec48] at hP hD
            have hI : IR g ad me ct47 := by rw [ec48]; exact upR hI (by decide) (i9_0 ⟨(bks2 : Int32), (lks3 : Int32), (gos4 : Int32), (shn5 : Int32), (0 : Int32), (pl07 : Int32), (ln08 : Int32), (flt9 : Int32), (opn10 : Int32), (cmy11 : Int32), (wtg12 : Int32), (nm013 : Int32), (mst14 : Int32), (sus15 : Int32), (cut16 : Int32), (by first | omega | decide), (by first | omega | decide), (by first | omega | decide), (by first | omega | decide), (by first | omega | decide), (by first | omega | decide), (by first | omega | decide), (by first | omega | decide), (by first | omega | decide), (by first | omega | decide), (by first | omega | decide), (by first | omega | decide), (by first | omega | decide), (by first | omega | decide), (by first | omega | decide), (by first | omega | decide), (by first | omega | decide), (by first | omega | decide), (by first | omega | decide), (by first | omega | decide), rfl⟩)
            have hs49 : ct47 0 = .inr (9, [.int me, .ref (ad 1), .ref (ad 2), .ref (ad 3), .ref (ad 4), .int bks2, .int lks3, .int gos4, .int shn5, .ref (ad 5), .ref (ad 6), .ref (ad 7), .ref (ad 8), .ref (ad 9), .ref (ad 10), .ref (ad 11), .int 0, .int pl07, .int ln08, .int flt9, .int opn10, .int cmy11, .int wtg12, .int nm013, .ref (ad 12), .ref (ad 13), .ref (ad 14), .ref (ad 15), .ref (ad 16), .ref (ad 17), .ref (ad 18), .ref (ad 19), .ref (ad 20), .ref (ad 21), .ref (ad 22), .ref (ad 23), .ref (ad 24), .ref (ad 25), .ref (ad 26), .ref (ad 27), .int mst14, .int sus15, .ref (ad 28), .ref (ad 29), .ref (ad 30), .ref (ad 31), .int cut16]) := by rw [ec48]; exact va_up_self _ _ _
            refine lv_iconst (v := 0) hx hb dX9_check_36 (by decide) ?_
            refine lv_istore (lv' := [(4, .int 0), (0, .ref (ad 0)), (1, .int b), (2, .int i), (3, .int n)]) hx hb dX9_check_37 hl (by decide) rfl (fun ls hl => ?_)
            have loop39 : ∀ (n39 : Nat) (v4_39 : Int32) (ct50 : Nat → va_E) (H : Heap) (locs : List Loc) (ls : Array Slot), ((4 - v4_39.toInt : Int).toNat < n39) → (0 ≤ v4_39.toInt ∧ v4_39.toInt ≤ 4) → (IR g ad me ct50) → zP g (zw 32 ad ct50) H → va_D A (zw 32 ad ct50) → va_S A s.heap H locs → lv_has ls 5 [(4, .int v4_39), (0, .ref (ad 0)), (1, .int b), (2, .int i), (3, .int n)] → W p l e (headSpec (zW yX9_check cX9_check 5 (some .int)) ({ frames := 3, cells := 0, slots := 0, locals := 65 })).room s m ([.ref (ad 0), .int b, .int i, .int n] : List Value).toArray below meth c H locs 0 0 (MQ below (va_Qi (fun (r : Int32) (_ : Unit) => (True)) (fun _ t => ∃ ct2 : Nat → va_E, zP g (zw 32 ad ct2) t.heap ∧ va_D A (zw 32 ad ct2) ∧ IR g ad me ct2) A) ([.ref (ad 0), .int b, .int i, .int n] : List Value).toArray s 0 0 A) (F0 m 39 ls []) := by
              intro n39
              induction n39 with
              | zero =>
                intro v4_39 ct50 H locs ls hn39 b4_39 hI hP hD hS hl
                exact absurd hn39 (Nat.not_lt_zero _)
              | succ n39 ih39 =>
                intro v4_39 ct50 H locs ls hn39 b4_39 hI hP hD hS hl
                refine lv_iload hx hb dX9_check_39 (lv_at hl 0 rfl) ?_
                refine lv_iload_n hx hb dX9_check_41 rfl (lv_at hl 4 rfl) ?_
                refine lv_icmp_ge (tgt := 78) hx hb dX9_check_42 (by decide) (fun c51 => ?_) (fun c51 => ?_)
                · skip
                  have c51 : n.toInt ≤ v4_39.toInt := (z_le rfl rfl).mp c51
                  refine lv_iconst (v := (-1)) hx hb dX9_check_78 (by decide) ?_
                  have q52 : ((-1) : Int32).toInt = -1 := by decide
                  exact W.iret (v := (-1)) hx hb hr (fun t ht hW => ⟨⟨(-1), (), rfl, trivial, ct50, by rw [ht]; exact hP, hD, hI⟩, hS.F ht⟩) hS.2.2 dX9_check_79
                · skip
                  have c51 : ¬ (n.toInt ≤ v4_39.toInt) := fun q => c51 ((z_le rfl rfl).mpr q)
                  refine lv_aload_n hx hb dX9_check_45 rfl (lv_at hl 1 rfl) ?_
                  refine lv_iload hx hb dX9_check_46 (lv_at hl 0 rfl) ?_
                  obtain ⟨bks54, lks55, gos56, shn57, tpd58, pl059, ln060, flt61, opn62, cmy63, wtg64, nm065, mst66, sus67, cut68, h69, h70, h71, h72, h73, h74, h75, h76, h77, h78, h79, h80, h81, h82, h83, h84, h85, h86, h87, h88, hs53⟩ := a9_0 hI.1
                  refine zc_i (va_runV (As := [.int v4_39]) (rest := []) ⟨hx, hb, hml, hown, hg⟩ (k_X9_tapeNumber l g ad me ct50 v4_39 (by first | omega | decide) hI) (cwV 1 hg (z_gV mm_1480 mm_1482 mm_106 mm_117 mm_1483) rfl rfl rfl (by decide +kernel) ⟨Nat.le_of_ble_eq_true rfl, Nat.le_of_ble_eq_true rfl⟩) ⟨(zR.pre [.ref (ad 0), .int v4_39] hP hK hN).1, va_recv hK hP (ci := 9) (q0 := 0) rfl (zw_at (by omega) hs53), (zR.pre [.ref (ad 0), .int v4_39] hP hK hN).2⟩ rfl rfl hl.1 rfl (lv_room (Nat.le_of_ble_eq_true rfl)) dX9_check_48 ⟨Nat.le_of_ble_eq_true rfl, Nat.le_of_ble_eq_true rfl⟩) (fun r89 hr89 => ?_)
                  refine lv_aload_n hx hb dX9_check_51 rfl (lv_at hl 1 rfl) ?_
                  refine va_get (D := g.1) (ci := 9) (v := .ref (ad 7)) (C := RX9) (T := TX9) (N := 47) hx hb hg inG9 hown hK hP 0 (zw_at (by omega) hs53) rfl 11 (by decide) (hg _ mm_969) (fun _ h9 => h9) rfl dX9_check_52 ?_
                  refine lv_iconst (v := 4) hx hb dX9_check_55 (by decide) ?_
                  refine lv_iload_n hx hb dX9_check_56 rfl (lv_at hl 2 rfl) ?_
                  refine lv_iload_n hx hb dX9_check_57 rfl (lv_at hl 3 rfl) ?_
                  refine zc_i (va_runS (As := [.int b, .int i]) (rest := [.int 4, .ref (ad 7), .int r89]) ⟨hx, hb, hml, hown, hg⟩ (k_X9_at l g ad me ct50 b i (by first | omega | decide) (by first | omega | decide) hI) (va_cwS 2 hg (z_gS mm_1159 mm_1160 mm_117 mm_1161) rfl rfl rfl (by decide +kernel) ⟨Nat.le_of_ble_eq_true rfl, Nat.le_of_ble_eq_true rfl⟩) (zR.pre [.int b, .int i] hP hK hN) rfl rfl hl.1 rfl (lv_room (Nat.le_of_ble_eq_true rfl)) dX9_check_58 ⟨Nat.le_of_ble_eq_true rfl, Nat.le_of_ble_eq_true rfl⟩) (fun r90 hr90 => ?_)
                  have hr90_0 := hr90
                  have hr90_0 : r90.toInt = 8 * b.toInt + i.toInt := hr90_0
                  refine lv_imul hx hb dX9_check_61 ?_
                  refine lv_topi (fun x91 ex91 => ?_)
                  have tx91 : x91.toInt = 4 * r90.toInt := by rw [ex91]; exact z_mul (by decide : (4 : Int32).toInt = 4) rfl (by omega) (by omega)
                  refine lv_iload hx hb dX9_check_62 (lv_at hl 0 rfl) ?_
                  refine lv_iadd hx hb dX9_check_64 ?_
                  refine lv_topi (fun x92 ex92 => ?_)
                  have tx92 : x92.toInt = x91.toInt + v4_39.toInt := by rw [ex92]; exact z_add rfl rfl (by omega) (by omega)
                  obtain ⟨f94, hp95, hs93⟩ := a9_7 hI.1
                  refine va_iald hx hb hK hP 7 0 (zw_at (by omega) hs93) rfl (z_in rfl (by omega) (by omega)) dX9_check_65 ?_
                  refine lv_topi (fun y96 ey96 => ?_)
                  have hy96 := hp95 _ (z_clt (x := x92) rfl (by omega) (by omega))
                  rw [← ey96] at hy96
                  have hy96 : 0 ≤ y96.toInt ∧ y96.toInt ≤ 32 := hy96
                  refine lv_icmp_eq (tgt := 72) hx hb dX9_check_66 (by decide) (fun c97 => ?_) (fun c97 => ?_)
                  · skip
                    have c97 : r89.toInt = y96.toInt := (z_eq rfl rfl).mp c97
                    obtain ⟨x98, ex98⟩ : ∃ y : Int32, y = v4_39 + 1 := ⟨_, rfl⟩
                    have tx98 : x98.toInt = v4_39.toInt + 1 := by rw [ex98]; exact z_add rfl (by decide : (1 : Int32).toInt = 1) (by omega) (by omega)
                    refine lv_iinc (v := x98) (lv' := [(4, .int x98), (0, .ref (ad 0)), (1, .int b), (2, .int i), (3, .int n)]) hx hb dX9_check_72 hl (k := 0) rfl (by rw [ex98]; rfl) (by decide) rfl (fun ls hl => ?_)
                    refine lv_goto (tgt := 39) hx hb dX9_check_75 (by decide) ?_
                    exact ih39 x98 ct50 _ _ ls (by omega) (by first | assumption | omega | decide) hI hP hD hS (lv_sub hl [0, 1, 2, 3, 4] rfl)
                  · skip
                    have c97 : ¬ (r89.toInt = y96.toInt) := fun q => c97 ((z_eq rfl rfl).mpr q)
                    refine lv_iload hx hb dX9_check_69 (lv_at hl 0 rfl) ?_
                    exact W.iret (v := v4_39) hx hb hr (fun t ht hW => ⟨⟨v4_39, (), rfl, trivial, ct50, by rw [ht]; exact hP, hD, hI⟩, hS.F ht⟩) hS.2.2 dX9_check_71
            exact loop39 ((4 - (0 : Int32).toInt : Int).toNat + 1) (0 : Int32) ct47 _ _ ls (by omega) (by first | assumption | omega | decide) hI hP hD hS (lv_sub hl [0, 1, 2, 3, 4] rfl)
          · skip
            have c46 : ¬ (n.toInt ≤ x45.toInt) := fun q => c46 ((z_le rfl rfl).mpr q)
            refine lv_bipush (v := (-2)) hx hb dX9_check_28 (by decide) ?_
            have q99 : ((-2) : Int32).toInt = -2 := by decide
            exact W.iret (v := (-2)) hx hb hr (fun t ht hW => ⟨⟨(-2), (), rfl, trivial, ct, by rw [ht]; exact hP, hD, hI⟩, hS.F ht⟩) hS.2.2 dX9_check_30
      · skip
        obtain ⟨rfl, h100⟩ := hr41
        replace h100 : ¬ ((0 : Int) ≤ n.toInt ∧ n.toInt ≤ (4 : Int)) := h100
        refine lv_if_eq (tgt := 28) hx hb dX9_check_15 (by decide) (fun c101 => ?_) (fun c101 => ?_)
        · skip
          refine lv_bipush (v := (-2)) hx hb dX9_check_28 (by decide) ?_
          have q102 : ((-2) : Int32).toInt = -2 := by decide
          exact W.iret (v := (-2)) hx hb hr (fun t ht hW => ⟨⟨(-2), (), rfl, trivial, ct, by rw [ht]; exact hP, hD, hI⟩, hS.F ht⟩) hS.2.2 dX9_check_30
        · skip
          exact absurd c101 (by decide)
  · skip
    obtain rfl := hr37
    refine lv_if_eq (tgt := 28) hx hb dX9_check_6 (by decide) (fun c103 => ?_) (fun c103 => ?_)
    · skip
      refine lv_bipush (v := (-2)) hx hb dX9_check_28 (by decide) ?_
      have q104 : ((-2) : Int32).toInt = -2 := by decide
      exact W.iret (v := (-2)) hx hb hr (fun t ht hW => ⟨⟨(-2), (), rfl, trivial, ct, by rw [ht]; exact hP, hD, hI⟩, hS.F ht⟩) hS.2.2 dX9_check_30
    · skip
      exact absurd c103 (by decide)

set_option maxHeartbeats 4000000 in
set_option maxRecDepth 100000 in
theorem k_X9_count (l : Launch) (g : zG) (ad : Nat → Nat) (me : Int32) (ct : Nat → va_E) (wh : Int32) (hI : IR g ad me ct) : Met l yX9_count (zW yX9_count cX9_count 2 (some .int)) ({ frames := 1, cells := 0, slots := 0, locals := 22 }) (va_Pc [.ref (ad 0), .int wh] (zR g (zw 32 ad ct))) (vp_Si (fun r : Int32 => (True))) 0 0 (fun _ => False) := by
  refine Met.ofW (cc := cX9_count) (maxL := 2) (ret := (some .int)) (by decide) rfl ?_
  intro p e s m args below meth c s₁ B hml hv
  obtain ⟨rfl, hP, hK, hN⟩ := hv
  have hx := B.exec
  have hb := B.bytes
  have hr := B.returns
  have hg := zW.law (atoms_spec (ws := (zW yX9_count cX9_count 2 (some .int))) B.pre)
  have hown : s.vm.findClass RX9 = some m.cls := findClass_of_methodNamed B.named
  have hlocks := B.notSynchronized
  have hpe0 := hI.1.1
  have hl := lv_entry ([.ref (ad 0), .int wh]) (n := 2) (Nat.le_of_ble_eq_true rfl)
  rw [lg_entry_eq]
  generalize (lg_sl ([.ref (ad 0), .int wh]) ++ List.replicate (2 - (lg_sl ([.ref (ad 0), .int wh])).length) Slot.unset).toArray = ls at hl ⊢
  have hl : lv_has ls 2 [(0, .ref (ad 0)), (1, .int wh)] := hl
  have rg_wh := z_rng wh
  refine lv_iload_n hx hb dX9_count_0 rfl (lv_at hl 1 rfl) ?_
  rcases (show wh.toInt = 0 ∨ wh.toInt = 1 ∨ wh.toInt = 2 ∨ wh.toInt = 3 ∨ wh.toInt = 4 ∨ wh.toInt = 5 ∨ wh.toInt < 0 ∨ 5 < wh.toInt by omega) with hw1 | hw1 | hw1 | hw1 | hw1 | hw1 | hw1
  · skip
    refine lv_tableIn (tgt := 40) (off := 39) hx hb dX9_count_1 (by omega) (by omega) (by rw [hw1]; rfl) (by decide) ?_
    refine lv_aload_n hx hb dX9_count_40 rfl (lv_at hl 0 rfl) ?_
    obtain ⟨bks3, lks4, gos5, shn6, tpd7, pl08, ln09, flt10, opn11, cmy12, wtg13, nm014, mst15, sus16, cut17, h18, h19, h20, h21, h22, h23, h24, h25, h26, h27, h28, h29, h30, h31, h32, h33, h34, h35, h36, h37, hs2⟩ := a9_0 hI.1
    refine va_get (D := g.1) (ci := 9) (v := .int me) (C := RX9) (T := TX9) (N := 47) hx hb hg inG9 hown hK hP 0 (zw_at (by omega) hs2) rfl 0 (by decide) (hg _ mm_958) (fun _ h9 => h9) rfl dX9_count_41 ?_
    exact W.iret (v := me) hx hb hr (fun t ht hW => ⟨me, rfl, trivial, ht⟩) (fun q hq => by cases hq) dX9_count_44
  · skip
    refine lv_tableIn (tgt := 45) (off := 44) hx hb dX9_count_1 (by omega) (by omega) (by rw [hw1]; rfl) (by decide) ?_
    refine lv_aload_n hx hb dX9_count_45 rfl (lv_at hl 0 rfl) ?_
    obtain ⟨bks39, lks40, gos41, shn42, tpd43, pl044, ln045, flt46, opn47, cmy48, wtg49, nm050, mst51, sus52, cut53, h54, h55, h56, h57, h58, h59, h60, h61, h62, h63, h64, h65, h66, h67, h68, h69, h70, h71, h72, h73, hs38⟩ := a9_0 hI.1
    refine va_get (D := g.1) (ci := 9) (v := .int bks39) (C := RX9) (T := TX9) (N := 47) hx hb hg inG9 hown hK hP 0 (zw_at (by omega) hs38) rfl 5 (by decide) (hg _ mm_963) (fun _ h9 => h9) rfl dX9_count_46 ?_
    exact W.iret (v := bks39) hx hb hr (fun t ht hW => ⟨bks39, rfl, trivial, ht⟩) (fun q hq => by cases hq) dX9_count_49
  · skip
    refine lv_tableIn (tgt := 50) (off := 49) hx hb dX9_count_1 (by omega) (by omega) (by rw [hw1]; rfl) (by decide) ?_
    refine lv_aload_n hx hb dX9_count_50 rfl (lv_at hl 0 rfl) ?_
    obtain ⟨bks75, lks76, gos77, shn78, tpd79, pl080, ln081, flt82, opn83, cmy84, wtg85, nm086, mst87, sus88, cut89, h90, h91, h92, h93, h94, h95, h96, h97, h98, h99, h100, h101, h102, h103, h104, h105, h106, h107, h108, h109, hs74⟩ := a9_0 hI.1
    refine va_get (D := g.1) (ci := 9) (v := .int lks76) (C := RX9) (T := TX9) (N := 47) hx hb hg inG9 hown hK hP 0 (zw_at (by omega) hs74) rfl 6 (by decide) (hg _ mm_964) (fun _ h9 => h9) rfl dX9_count_51 ?_
    exact W.iret (v := lks76) hx hb hr (fun t ht hW => ⟨lks76, rfl, trivial, ht⟩) (fun q hq => by cases hq) dX9_count_54
  · skip
    refine lv_tableIn (tgt := 55) (off := 54) hx hb dX9_count_1 (by omega) (by omega) (by rw [hw1]; rfl) (by decide) ?_
    refine lv_aload_n hx hb dX9_count_55 rfl (lv_at hl 0 rfl) ?_
    obtain ⟨bks111, lks112, gos113, shn114, tpd115, pl0116, ln0117, flt118, opn119, cmy120, wtg121, nm0122, mst123, sus124, cut125, h126, h127, h128, h129, h130, h131, h132, h133, h134, h135, h136, h137, h138, h139, h140, h141, h142, h143, h144, h145, hs110⟩ := a9_0 hI.1
    refine va_get (D := g.1) (ci := 9) (v := .int gos113) (C := RX9) (T := TX9) (N := 47) hx hb hg inG9 hown hK hP 0 (zw_at (by omega) hs110) rfl 7 (by decide) (hg _ mm_965) (fun _ h9 => h9) rfl dX9_count_56 ?_
    exact W.iret (v := gos113) hx hb hr (fun t ht hW => ⟨gos113, rfl, trivial, ht⟩) (fun q hq => by cases hq) dX9_count_59
  · skip
    refine lv_tableIn (tgt := 60) (off := 59) hx hb dX9_count_1 (by omega) (by omega) (by rw [hw1]; rfl) (by decide) ?_
    refine lv_aload_n hx hb dX9_count_60 rfl (lv_at hl 0 rfl) ?_
    obtain ⟨bks147, lks148, gos149, shn150, tpd151, pl0152, ln0153, flt154, opn155, cmy156, wtg157, nm0158, mst159, sus160, cut161, h162, h163, h164, h165, h166, h167, h168, h169, h170, h171, h172, h173, h174, h175, h176, h177, h178, h179, h180, h181, hs146⟩ := a9_0 hI.1
    refine va_get (D := g.1) (ci := 9) (v := .int tpd151) (C := RX9) (T := TX9) (N := 47) hx hb hg inG9 hown hK hP 0 (zw_at (by omega) hs146) rfl 16 (by decide) (hg _ mm_974) (fun _ h9 => h9) rfl dX9_count_61 ?_
    exact W.iret (v := tpd151) hx hb hr (fun t ht hW => ⟨tpd151, rfl, trivial, ht⟩) (fun q hq => by cases hq) dX9_count_64
  · skip
    refine lv_tableIn (tgt := 65) (off := 64) hx hb dX9_count_1 (by omega) (by omega) (by rw [hw1]; rfl) (by decide) ?_
    refine lv_aload_n hx hb dX9_count_65 rfl (lv_at hl 0 rfl) ?_
    obtain ⟨bks183, lks184, gos185, shn186, tpd187, pl0188, ln0189, flt190, opn191, cmy192, wtg193, nm0194, mst195, sus196, cut197, h198, h199, h200, h201, h202, h203, h204, h205, h206, h207, h208, h209, h210, h211, h212, h213, h214, h215, h216, h217, hs182⟩ := a9_0 hI.1
    refine va_get (D := g.1) (ci := 9) (v := .int shn186) (C := RX9) (T := TX9) (N := 47) hx hb hg inG9 hown hK hP 0 (zw_at (by omega) hs182) rfl 8 (by decide) (hg _ mm_966) (fun _ h9 => h9) rfl dX9_count_66 ?_
    exact W.iret (v := shn186) hx hb hr (fun t ht hW => ⟨shn186, rfl, trivial, ht⟩) (fun q hq => by cases hq) dX9_count_69
  · skip
    refine lv_tableOut (tgt := 70) hx hb dX9_count_1 (by omega) (by decide) ?_
    refine lv_iload_n hx hb dX9_count_70 rfl (lv_at hl 1 rfl) ?_
    refine lv_bipush (v := 10) hx hb dX9_count_71 (by decide) ?_
    refine lv_bipush (v := 9) hx hb dX9_count_73 (by decide) ?_
    refine lv_aload_n hx hb dX9_count_75 rfl (lv_at hl 0 rfl) ?_
    obtain ⟨bks219, lks220, gos221, shn222, tpd223, pl0224, ln0225, flt226, opn227, cmy228, wtg229, nm0230, mst231, sus232, cut233, h234, h235, h236, h237, h238, h239, h240, h241, h242, h243, h244, h245, h246, h247, h248, h249, h250, h251, h252, h253, hs218⟩ := a9_0 hI.1
    refine va_get (D := g.1) (ci := 9) (v := .int bks219) (C := RX9) (T := TX9) (N := 47) hx hb hg inG9 hown hK hP 0 (zw_at (by omega) hs218) rfl 5 (by decide) (hg _ mm_963) (fun _ h9 => h9) rfl dX9_count_76 ?_
    refine lv_iadd hx hb dX9_count_79 ?_
    refine lv_topi (fun x254 ex254 => ?_)
    have tx254 : x254.toInt = 9 + bks219.toInt := by rw [ex254]; exact z_add (by decide : (9 : Int32).toInt = 9) rfl (by omega) (by omega)
    refine zc_i (va_runS (As := [.int wh, .int 10, .int x254]) (rest := []) ⟨hx, hb, hml, hown, hg⟩ (k_X9_in l g ad me ct wh (10 : Int32) x254 hI) (va_cwS 3 hg (z_gS mm_1109 mm_1110 mm_117 mm_1111) rfl rfl rfl (by decide +kernel) ⟨Nat.le_of_ble_eq_true rfl, Nat.le_of_ble_eq_true rfl⟩) (zR.pre [.int wh, .int 10, .int x254] hP hK hN) rfl rfl hl.1 rfl (lv_room (Nat.le_of_ble_eq_true rfl)) dX9_count_80 ⟨Nat.le_of_ble_eq_true rfl, Nat.le_of_ble_eq_true rfl⟩) (fun r255 hr255 => ?_)
    rcases hr255 with hr255 | hr255
    · skip
      obtain ⟨rfl, h256, h257⟩ := hr255
      replace h256 : (10 : Int) ≤ wh.toInt := h256
      replace h257 : wh.toInt ≤ x254.toInt := h257
      refine lv_if_eq (tgt := 96) hx hb dX9_count_83 (by decide) (fun c258 => ?_) (fun c258 => ?_)
      · skip
        exact absurd c258 (by decide)
      · skip
        refine lv_aload_n hx hb dX9_count_86 rfl (lv_at hl 0 rfl) ?_
        refine va_get (D := g.1) (ci := 9) (v := .ref (ad 5)) (C := RX9) (T := TX9) (N := 47) hx hb hg inG9 hown hK hP 0 (zw_at (by omega) hs218) rfl 9 (by decide) (hg _ mm_967) (fun _ h9 => h9) rfl dX9_count_87 ?_
        refine lv_iload_n hx hb dX9_count_90 rfl (lv_at hl 1 rfl) ?_
        refine lv_bipush (v := 10) hx hb dX9_count_91 (by decide) ?_
        refine lv_isub hx hb dX9_count_93 ?_
        refine lv_topi (fun x259 ex259 => ?_)
        have tx259 : x259.toInt = wh.toInt - 10 := by rw [ex259]; exact z_sub rfl (by decide : (10 : Int32).toInt = 10) (by omega) (by omega)
        obtain ⟨f261, hp262, hs260⟩ := a9_5 hI.1
        refine va_iald hx hb hK hP 5 0 (zw_at (by omega) hs260) rfl (z_in rfl (by omega) (by omega)) dX9_count_94 ?_
        refine lv_topi (fun y263 ey263 => ?_)
        have hy263 := hp262 _ (z_clt (x := x259) rfl (by omega) (by omega))
        rw [← ey263] at hy263
        have hy263 : 0 ≤ y263.toInt ∧ y263.toInt ≤ 8 := hy263
        exact W.iret (v := y263) hx hb hr (fun t ht hW => ⟨y263, rfl, trivial, ht⟩) (fun q hq => by cases hq) dX9_count_95
    · skip
      obtain ⟨rfl, h264⟩ := hr255
      replace h264 : ¬ ((10 : Int) ≤ wh.toInt ∧ wh.toInt ≤ x254.toInt) := h264
      refine lv_if_eq (tgt := 96) hx hb dX9_count_83 (by decide) (fun c265 => ?_) (fun c265 => ?_)
      · skip
        refine lv_iload_n hx hb dX9_count_96 rfl (lv_at hl 1 rfl) ?_
        refine lv_bipush (v := 20) hx hb dX9_count_97 (by decide) ?_
        refine lv_bipush (v := 23) hx hb dX9_count_99 (by decide) ?_
        refine zc_i (va_runS (As := [.int wh, .int 20, .int 23]) (rest := []) ⟨hx, hb, hml, hown, hg⟩ (k_X9_in l g ad me ct wh (20 : Int32) (23 : Int32) hI) (va_cwS 3 hg (z_gS mm_1109 mm_1110 mm_117 mm_1111) rfl rfl rfl (by decide +kernel) ⟨Nat.le_of_ble_eq_true rfl, Nat.le_of_ble_eq_true rfl⟩) (zR.pre [.int wh, .int 20, .int 23] hP hK hN) rfl rfl hl.1 rfl (lv_room (Nat.le_of_ble_eq_true rfl)) dX9_count_101 ⟨Nat.le_of_ble_eq_true rfl, Nat.le_of_ble_eq_true rfl⟩) (fun r266 hr266 => ?_)
        rcases hr266 with hr266 | hr266
        · skip
          obtain ⟨rfl, h267, h268⟩ := hr266
          replace h267 : (20 : Int) ≤ wh.toInt := h267
          replace h268 : wh.toInt ≤ (23 : Int) := h268
          refine lv_if_eq (tgt := 117) hx hb dX9_count_104 (by decide) (fun c269 => ?_) (fun c269 => ?_)
          · skip
            exact absurd c269 (by decide)
          · skip
            refine lv_aload_n hx hb dX9_count_107 rfl (lv_at hl 0 rfl) ?_
            refine va_get (D := g.1) (ci := 9) (v := .ref (ad 2)) (C := RX9) (T := TX9) (N := 47) hx hb hg inG9 hown hK hP 0 (zw_at (by omega) hs218) rfl 2 (by decide) (hg _ mm_960) (fun _ h9 => h9) rfl dX9_count_108 ?_
            refine lv_iload_n hx hb dX9_count_111 rfl (lv_at hl 1 rfl) ?_
            refine lv_bipush (v := 20) hx hb dX9_count_112 (by decide) ?_
            refine lv_isub hx hb dX9_count_114 ?_
            refine lv_topi (fun x270 ex270 => ?_)
            have tx270 : x270.toInt = wh.toInt - 20 := by rw [ex270]; exact z_sub rfl (by decide : (20 : Int32).toInt = 20) (by omega) (by omega)
            obtain ⟨f272, hs271⟩ := a9_2 hI.1
            refine va_iald hx hb hK hP 2 0 (zw_at (by omega) hs271) rfl (z_in rfl (by omega) (by omega)) dX9_count_115 ?_
            refine lv_topi (fun y273 ey273 => ?_)
            exact W.iret (v := y273) hx hb hr (fun t ht hW => ⟨y273, rfl, trivial, ht⟩) (fun q hq => by cases hq) dX9_count_116
        · skip
          obtain ⟨rfl, h274⟩ := hr266
          replace h274 : ¬ ((20 : Int) ≤ wh.toInt ∧ wh.toInt ≤ (23 : Int)) := h274
          refine lv_if_eq (tgt := 117) hx hb dX9_count_104 (by decide) (fun c275 => ?_) (fun c275 => ?_)
          · skip
            refine lv_iload_n hx hb dX9_count_117 rfl (lv_at hl 1 rfl) ?_
            refine lv_bipush (v := 30) hx hb dX9_count_118 (by decide) ?_
            refine lv_bipush (v := 29) hx hb dX9_count_120 (by decide) ?_
            refine lv_aload_n hx hb dX9_count_122 rfl (lv_at hl 0 rfl) ?_
            refine va_get (D := g.1) (ci := 9) (v := .int me) (C := RX9) (T := TX9) (N := 47) hx hb hg inG9 hown hK hP 0 (zw_at (by omega) hs218) rfl 0 (by decide) (hg _ mm_958) (fun _ h9 => h9) rfl dX9_count_123 ?_
            refine lv_iadd hx hb dX9_count_126 ?_
            refine lv_topi (fun x276 ex276 => ?_)
            have tx276 : x276.toInt = 29 + me.toInt := by rw [ex276]; exact z_add (by decide : (29 : Int32).toInt = 29) rfl (by omega) (by omega)
            refine zc_i (va_runS (As := [.int wh, .int 30, .int x276]) (rest := []) ⟨hx, hb, hml, hown, hg⟩ (k_X9_in l g ad me ct wh (30 : Int32) x276 hI) (va_cwS 3 hg (z_gS mm_1109 mm_1110 mm_117 mm_1111) rfl rfl rfl (by decide +kernel) ⟨Nat.le_of_ble_eq_true rfl, Nat.le_of_ble_eq_true rfl⟩) (zR.pre [.int wh, .int 30, .int x276] hP hK hN) rfl rfl hl.1 rfl (lv_room (Nat.le_of_ble_eq_true rfl)) dX9_count_127 ⟨Nat.le_of_ble_eq_true rfl, Nat.le_of_ble_eq_true rfl⟩) (fun r277 hr277 => ?_)
            rcases hr277 with hr277 | hr277
            · skip
              obtain ⟨rfl, h278, h279⟩ := hr277
              replace h278 : (30 : Int) ≤ wh.toInt := h278
              replace h279 : wh.toInt ≤ x276.toInt := h279
              refine lv_if_eq (tgt := 145) hx hb dX9_count_130 (by decide) (fun c280 => ?_) (fun c280 => ?_)
              · skip
                exact absurd c280 (by decide)
              · skip
                refine lv_aload_n hx hb dX9_count_133 rfl (lv_at hl 0 rfl) ?_
                refine va_get (D := g.1) (ci := 9) (v := .ref (ad 4)) (C := RX9) (T := TX9) (N := 47) hx hb hg inG9 hown hK hP 0 (zw_at (by omega) hs218) rfl 4 (by decide) (hg _ mm_962) (fun _ h9 => h9) rfl dX9_count_134 ?_
                refine lv_iload_n hx hb dX9_count_137 rfl (lv_at hl 1 rfl) ?_
                refine lv_bipush (v := 30) hx hb dX9_count_138 (by decide) ?_
                refine lv_isub hx hb dX9_count_140 ?_
                refine lv_topi (fun x281 ex281 => ?_)
                have tx281 : x281.toInt = wh.toInt - 30 := by rw [ex281]; exact z_sub rfl (by decide : (30 : Int32).toInt = 30) (by omega) (by omega)
                obtain ⟨f283, hs282⟩ := a9_4 hI.1
                refine va_iald hx hb hK hP 4 0 (zw_at (by omega) hs282) rfl (z_in rfl (by omega) (by omega)) dX9_count_141 ?_
                refine lv_topi (fun y284 ey284 => ?_)
                refine lv_goto (tgt := 146) hx hb dX9_count_142 (by decide) ?_
                exact W.iret (v := y284) hx hb hr (fun t ht hW => ⟨y284, rfl, trivial, ht⟩) (fun q hq => by cases hq) dX9_count_146
            · skip
              obtain ⟨rfl, h285⟩ := hr277
              replace h285 : ¬ ((30 : Int) ≤ wh.toInt ∧ wh.toInt ≤ x276.toInt) := h285
              refine lv_if_eq (tgt := 145) hx hb dX9_count_130 (by decide) (fun c286 => ?_) (fun c286 => ?_)
              · skip
                refine lv_iconst (v := (-1)) hx hb dX9_count_145 (by decide) ?_
                have q287 : ((-1) : Int32).toInt = -1 := by decide
                exact W.iret (v := (-1)) hx hb hr (fun t ht hW => ⟨(-1), rfl, trivial, ht⟩) (fun q hq => by cases hq) dX9_count_146
              · skip
                exact absurd c286 (by decide)
          · skip
            exact absurd c275 (by decide)
      · skip
        exact absurd c265 (by decide)
