set_option maxHeartbeats 4000000 in
set_option maxRecDepth 100000 in
theorem k_X9_blurring (l : Launch) (g : zG) (sz : Nat) (ad : Nat → Nat) (me : Int32) (ct : Nat → va_E) (n : Int32) (k : Int32) (pr : Int32) (wh : Int32) (hI : IR g ad me ct) : Met l yX9_blurring (zW yX9_blurring cX9_blurring 10 (some .int)) ({ frames := 4, cells := 0, slots := 0, locals := 101 }) (va_Pc [.ref (ad 0), .int n, .int k, .int pr, .int wh] (zA g (zw 32 ad ct) sz)) (va_Qi (fun (r : Int32) (_ : Unit) => (True)) (fun _ t => ∃ ct2 : Nat → va_E, zP g (zw 32 ad ct2) t.heap ∧ va_D (va_A (zw 32 ad ct) sz) (zw 32 ad ct2) ∧ IR g ad me ct2) (va_A (zw 32 ad ct) sz)) 0 0 (va_A (zw 32 ad ct) sz) := by
  refine Met.ofW (cc := cX9_blurring) (maxL := 10) (ret := (some .int)) (by decide) rfl ?_
  intro p e s m args below meth c s₁ B hml hv
  obtain ⟨rfl, hsz, hP, hK, hD0, hN⟩ := hv
  have hx := B.exec
  have hb := B.bytes
  have hr := B.returns
  have hg := zW.law (atoms_spec (ws := (zW yX9_blurring cX9_blurring 10 (some .int))) B.pre)
  have hown : s.vm.findClass RX9 = some m.cls := findClass_of_methodNamed B.named
  have hlocks := B.notSynchronized
  have hpe0 := hI.1.1
  subst hsz
  have hD := hD0.self (sz := s.heap.size)
  generalize hAe : va_A (zw 32 ad ct) s.heap.size = A at hD ⊢
  have hA : ∀ q : Nat, s.heap.size ≤ q → A q := fun q h => by rw [← hAe]; exact Or.inr h
  have hS : va_S A s.heap s.heap [] := va_S.rf
  have hl := lv_entry ([.ref (ad 0), .int n, .int k, .int pr, .int wh]) (n := 10) (Nat.le_of_ble_eq_true rfl)
  rw [lg_entry_eq]
  generalize (lg_sl ([.ref (ad 0), .int n, .int k, .int pr, .int wh]) ++ List.replicate (10 - (lg_sl ([.ref (ad 0), .int n, .int k, .int pr, .int wh])).length) Slot.unset).toArray = ls at hl ⊢
  have hl : lv_has ls 10 [(0, .ref (ad 0)), (1, .int n), (2, .int k), (3, .int pr), (4, .int wh)] := hl
  have rg_n := z_rng n
  have rg_k := z_rng k
  have rg_pr := z_rng pr
  have rg_wh := z_rng wh
  refine lv_iload_n hx hb dX9_blurring_0 rfl (lv_at hl 1 rfl) ?_
  refine lv_iconst (v := 1) hx hb dX9_blurring_1 (by decide) ?_
  refine lv_bipush (v := 8) hx hb dX9_blurring_2 (by decide) ?_
  refine zc_i (va_runS (As := [.int n, .int 1, .int 8]) (rest := []) ⟨hx, hb, hml, hown, hg⟩ (k_X9_in l g ad me ct n (1 : Int32) (8 : Int32) hI) (va_cwS 3 hg (z_gS mm_1109 mm_1110 mm_117 mm_1111) rfl rfl rfl (by decide +kernel) ⟨Nat.le_of_ble_eq_true rfl, Nat.le_of_ble_eq_true rfl⟩) (zR.pre [.int n, .int 1, .int 8] hP hK hN) rfl rfl hl.1 rfl (lv_room (Nat.le_of_ble_eq_true rfl)) dX9_blurring_4 ⟨Nat.le_of_ble_eq_true rfl, Nat.le_of_ble_eq_true rfl⟩) (fun r1 hr1 => ?_)
  rcases hr1 with hr1 | hr1
  · skip
    obtain ⟨rfl, h2, h3⟩ := hr1
    replace h2 : (1 : Int) ≤ n.toInt := h2
    replace h3 : n.toInt ≤ (8 : Int) := h3
    refine lv_if_eq (tgt := 46) hx hb dX9_blurring_7 (by decide) (fun c4 => ?_) (fun c4 => ?_)
    · skip
      exact absurd c4 (by decide)
    · skip
      refine lv_iload_n hx hb dX9_blurring_10 rfl (lv_at hl 2 rfl) ?_
      refine zc_i (va_runS (As := [.int k]) (rest := []) ⟨hx, hb, hml, hown, hg⟩ (k_X9_isMany l g ad me ct k hI) (va_cwS 1 hg (z_gS mm_1404 mm_1405 mm_117 mm_1406) rfl rfl rfl (by decide +kernel) ⟨Nat.le_of_ble_eq_true rfl, Nat.le_of_ble_eq_true rfl⟩) (zR.pre [.int k] hP hK hN) rfl rfl hl.1 rfl (lv_room (Nat.le_of_ble_eq_true rfl)) dX9_blurring_11 ⟨Nat.le_of_ble_eq_true rfl, Nat.le_of_ble_eq_true rfl⟩) (fun r5 hr5 => ?_)
      rcases hr5 with hr5 | hr5
      · skip
        obtain ⟨rfl, h6, h7⟩ := hr5
        replace h6 : 1 ≤ k.toInt := h6
        replace h7 : k.toInt ≤ 16 := h7
        refine lv_if_eq (tgt := 46) hx hb dX9_blurring_14 (by decide) (fun c8 => ?_) (fun c8 => ?_)
        · skip
          exact absurd c8 (by decide)
        · skip
          refine lv_iload_n hx hb dX9_blurring_17 rfl (lv_at hl 3 rfl) ?_
          refine lv_iconst (v := 0) hx hb dX9_blurring_18 (by decide) ?_
          refine lv_sipush (v := 9999) hx hb dX9_blurring_19 (by decide) ?_
          refine zc_i (va_runS (As := [.int pr, .int 0, .int 9999]) (rest := []) ⟨hx, hb, hml, hown, hg⟩ (k_X9_in l g ad me ct pr (0 : Int32) (9999 : Int32) hI) (va_cwS 3 hg (z_gS mm_1109 mm_1110 mm_117 mm_1111) rfl rfl rfl (by decide +kernel) ⟨Nat.le_of_ble_eq_true rfl, Nat.le_of_ble_eq_true rfl⟩) (zR.pre [.int pr, .int 0, .int 9999] hP hK hN) rfl rfl hl.1 rfl (lv_room (Nat.le_of_ble_eq_true rfl)) dX9_blurring_22 ⟨Nat.le_of_ble_eq_true rfl, Nat.le_of_ble_eq_true rfl⟩) (fun r9 hr9 => ?_)
          rcases hr9 with hr9 | hr9
          · skip
            obtain ⟨rfl, h10, h11⟩ := hr9
            replace h10 : (0 : Int) ≤ pr.toInt := h10
            replace h11 : pr.toInt ≤ (9999 : Int) := h11
            refine lv_if_eq (tgt := 46) hx hb dX9_blurring_25 (by decide) (fun c12 => ?_) (fun c12 => ?_)
            · skip
              exact absurd c12 (by decide)
            · skip
              refine lv_iload hx hb dX9_blurring_28 (lv_at hl 4 rfl) ?_
              refine lv_iconst (v := (-1)) hx hb dX9_blurring_30 (by decide) ?_
              refine lv_iconst (v := 4) hx hb dX9_blurring_31 (by decide) ?_
              refine zc_i (va_runS (As := [.int wh, .int (-1), .int 4]) (rest := []) ⟨hx, hb, hml, hown, hg⟩ (k_X9_in l g ad me ct wh (-1 : Int32) (4 : Int32) hI) (va_cwS 3 hg (z_gS mm_1109 mm_1110 mm_117 mm_1111) rfl rfl rfl (by decide +kernel) ⟨Nat.le_of_ble_eq_true rfl, Nat.le_of_ble_eq_true rfl⟩) (zR.pre [.int wh, .int (-1), .int 4] hP hK hN) rfl rfl hl.1 rfl (lv_room (Nat.le_of_ble_eq_true rfl)) dX9_blurring_32 ⟨Nat.le_of_ble_eq_true rfl, Nat.le_of_ble_eq_true rfl⟩) (fun r13 hr13 => ?_)
              rcases hr13 with hr13 | hr13
              · skip
                obtain ⟨rfl, h14, h15⟩ := hr13
                replace h14 : (-1 : Int) ≤ wh.toInt := h14
                replace h15 : wh.toInt ≤ (4 : Int) := h15
                refine lv_if_eq (tgt := 46) hx hb dX9_blurring_35 (by decide) (fun c16 => ?_) (fun c16 => ?_)
                · skip
                  exact absurd c16 (by decide)
                · skip
                  refine lv_iload_n hx hb dX9_blurring_38 rfl (lv_at hl 1 rfl) ?_
                  refine lv_aload_n hx hb dX9_blurring_39 rfl (lv_at hl 0 rfl) ?_
                  obtain ⟨bks18, lks19, gos20, shn21, tpd22, pl023, ln024, flt25, opn26, cmy27, wtg28, nm029, mst30, sus31, cut32, h33, h34, h35, h36, h37, h38, h39, h40, h41, h42, h43, h44, h45, h46, h47, h48, h49, h50, h51, h52, hs17⟩ := a9_0 hI.1
                  refine va_get (D := g.1) (ci := 9) (v := .int tpd22) (C := RX9) (T := TX9) (N := 47) hx hb hg inG9 hown hK hP 0 (zw_at (by omega) hs17) rfl 16 (by decide) (hg _ mm_974) (fun _ h9 => h9) rfl dX9_blurring_40 ?_
                  refine lv_icmp_le (tgt := 49) hx hb dX9_blurring_43 (by decide) (fun c53 => ?_) (fun c53 => ?_)
                  · skip
                    have c53 : n.toInt ≤ tpd22.toInt := (z_le rfl rfl).mp c53
                    refine lv_aload_n hx hb dX9_blurring_49 rfl (lv_at hl 0 rfl) ?_
                    refine lv_iconst (v := 0) hx hb dX9_blurring_50 (by decide) ?_
                    refine va_put (D := g.1) (ci := 9) (v := .int 0) (ty := .int) (C := RX9) (T := TX9) (N := 47) hx hb hg inG9 tyX9 tyX9_ok nmX9 hown hK hP hD hS 0 (zw_at (by omega) hs17) rfl 16 (by decide) (hg _ mm_974) (fun _ h9 => h9) rfl (by decide +kernel) rfl rfl (Nat.le_of_ble_eq_true rfl) dX9_blurring_51 (fun H locs hP hD hS => ?_)
                    have hP : zP g ((zw 32 ad ct).set 0 (ad 0, .inr (9, [.int me, .ref (ad 1), .ref (ad 2), .ref (ad 3), .ref (ad 4), .int bks18, .int lks19, .int gos20, .int shn21, .ref (ad 5), .ref (ad 6), .ref (ad 7), .ref (ad 8), .ref (ad 9), .ref (ad 10), .ref (ad 11), .int 0, .int pl023, .int ln024, .int flt25, .int opn26, .int cmy27, .int wtg28, .int nm029, .ref (ad 12), .ref (ad 13), .ref (ad 14), .ref (ad 15), .ref (ad 16), .ref (ad 17), .ref (ad 18), .ref (ad 19), .ref (ad 20), .ref (ad 21), .ref (ad 22), .ref (ad 23), .ref (ad 24), .ref (ad 25), .ref (ad 26), .ref (ad 27), .int mst30, .int sus31, .ref (ad 28), .ref (ad 29), .ref (ad 30), .ref (ad 31), .int cut32]))) H := hP
                    have hD : va_D A ((zw 32 ad ct).set 0 (ad 0, .inr (9, [.int me, .ref (ad 1), .ref (ad 2), .ref (ad 3), .ref (ad 4), .int bks18, .int lks19, .int gos20, .int shn21, .ref (ad 5), .ref (ad 6), .ref (ad 7), .ref (ad 8), .ref (ad 9), .ref (ad 10), .ref (ad 11), .int 0, .int pl023, .int ln024, .int flt25, .int opn26, .int cmy27, .int wtg28, .int nm029, .ref (ad 12), .ref (ad 13), .ref (ad 14), .ref (ad 15), .ref (ad 16), .ref (ad 17), .ref (ad 18), .ref (ad 19), .ref (ad 20), .ref (ad 21), .ref (ad 22), .ref (ad 23), .ref (ad 24), .ref (ad 25), .ref (ad 26), .ref (ad 27), .int mst30, .int sus31, .ref (ad 28), .ref (ad 29), .ref (ad 30), .ref (ad 31), .int cut32]))) := hD
                    rw [zw_set (by omega)] at hP hD
                    obtain ⟨ct54, ec55⟩ : ∃ z : Nat → va_E, z = va_up ct 0 (.inr (9, [.int me, .ref (ad 1), .ref (ad 2), .ref (ad 3), .ref (ad 4), .int bks18, .int lks19, .int gos20, .int shn21, .ref (ad 5), .ref (ad 6), .ref (ad 7), .ref (ad 8), .ref (ad 9), .ref (ad 10), .ref (ad 11), .int 0, .int pl023, .int ln024, .int flt25, .int opn26, .int cmy27, .int wtg28, .int nm029, .ref (ad 12), .ref (ad 13), .ref (ad 14), .ref (ad 15), .ref (ad 16), .ref (ad 17), .ref (ad 18), .ref (ad 19), .ref (ad 20), .ref (ad 21), .ref (ad 22), .ref (ad 23), .ref (ad 24), .ref (ad 25), .ref (ad 26), .ref (ad 27), .int mst30, .int sus31, .ref (ad 28), .ref (ad 29), .ref (ad 30), .ref (ad 31), .int cut32])) := ⟨_, rfl⟩
                    rw [← ec55] at hP hD
                    have hI : IR g ad me ct54 := by rw [ec55]; exact upR hI (by decide) (i9_0 ⟨(bks18 : Int32), (lks19 : Int32), (gos20 : Int32), (shn21 : Int32), (0 : Int32), (pl023 : Int32), (ln024 : Int32), (flt25 : Int32), (opn26 : Int32), (cmy27 : Int32), (wtg28 : Int32), (nm029 : Int32), (mst30 : Int32), (sus31 : Int32), (cut32 : Int32), (by first | omega | decide), (by first | omega | decide), (by first | omega | decide), (by first | omega | decide), (by first | omega | decide), (by first | omega | decide), (by first | omega | decide), (by first | omega | decide), (by first | omega | decide), (by first | omega | decide), (by first | omega | decide), (by first | omega | decide), (by first | omega | decide), (by first | omega | decide), (by first | omega | decide), (by first | omega | decide), (by first | omega | decide), (by first | omega | decide), (by first | omega | decide), (by first | omega | decide), rfl⟩)
                    have hs56 : ct54 0 = .inr (9, [.int me, .ref (ad 1), .ref (ad 2), .ref (ad 3), .ref (ad 4), .int bks18, .int lks19, .int gos20, .int shn21, .ref (ad 5), .ref (ad 6), .ref (ad 7), .ref (ad 8), .ref (ad 9), .ref (ad 10), .ref (ad 11), .int 0, .int pl023, .int ln024, .int flt25, .int opn26, .int cmy27, .int wtg28, .int nm029, .ref (ad 12), .ref (ad 13), .ref (ad 14), .ref (ad 15), .ref (ad 16), .ref (ad 17), .ref (ad 18), .ref (ad 19), .ref (ad 20), .ref (ad 21), .ref (ad 22), .ref (ad 23), .ref (ad 24), .ref (ad 25), .ref (ad 26), .ref (ad 27), .int mst30, .int sus31, .ref (ad 28), .ref (ad 29), .ref (ad 30), .ref (ad 31), .int cut32]) := by rw [ec55]; exact va_up_self _ _ _
                    refine lv_aload_n hx hb dX9_blurring_54 rfl (lv_at hl 0 rfl) ?_
                    refine lv_iload_n hx hb dX9_blurring_55 rfl (lv_at hl 1 rfl) ?_
                    refine zc_i (va_runV (As := [.int n]) (rest := []) ⟨hx, hb, hml, hown, hg⟩ (k_X9_areTold l g ad me ct54 n (by first | omega | decide) hI) (cwV 1 hg (z_gV mm_1155 mm_1157 mm_55 mm_117 mm_1158) rfl rfl rfl (by decide +kernel) ⟨Nat.le_of_ble_eq_true rfl, Nat.le_of_ble_eq_true rfl⟩) ⟨(zR.pre [.ref (ad 0), .int n] hP hK hN).1, va_recv hK hP (ci := 9) (q0 := 0) rfl (zw_at (by omega) hs56), (zR.pre [.ref (ad 0), .int n] hP hK hN).2⟩ rfl rfl hl.1 rfl (lv_room (Nat.le_of_ble_eq_true rfl)) dX9_blurring_56 ⟨Nat.le_of_ble_eq_true rfl, Nat.le_of_ble_eq_true rfl⟩) (fun r57 hr57 => ?_)
                    rcases hr57 with hr57 | hr57
                    · skip
                      obtain ⟨rfl, h58⟩ := hr57
                      replace h58 : zTp (ct54 11) n.toInt me := h58
                      refine lv_if_ne (tgt := 65) hx hb dX9_blurring_59 (by decide) (fun c59 => ?_) (fun c59 => ?_)
                      · skip
                        obtain ⟨f61, hs60⟩ := a9_11 hI.1
                        have hTold := h58
                        rw [hs60] at hTold
                        refine lv_iconst (v := 0) hx hb dX9_blurring_65 (by decide) ?_
                        refine lv_istore (lv' := [(5, .int 0), (0, .ref (ad 0)), (1, .int n), (2, .int k), (3, .int pr), (4, .int wh)]) hx hb dX9_blurring_66 hl (by decide) rfl (fun ls hl => ?_)
                        refine lv_ldcw hx hb hown (hg _ mm_1439) dX9_blurring_68 ?_
                        refine lv_istore (lv' := [(6, .int 1000000000), (5, .int 0), (0, .ref (ad 0)), (1, .int n), (2, .int k), (3, .int pr), (4, .int wh)]) hx hb dX9_blurring_71 hl (by decide) rfl (fun ls hl => ?_)
                        refine lv_iconst (v := 0) hx hb dX9_blurring_73 (by decide) ?_
                        refine lv_istore (lv' := [(7, .int 0), (6, .int 1000000000), (5, .int 0), (0, .ref (ad 0)), (1, .int n), (2, .int k), (3, .int pr), (4, .int wh)]) hx hb dX9_blurring_74 hl (by decide) rfl (fun ls hl => ?_)
                        refine lv_iconst (v := 0) hx hb dX9_blurring_76 (by decide) ?_
                        refine lv_istore (lv' := [(8, .int 0), (7, .int 0), (6, .int 1000000000), (5, .int 0), (0, .ref (ad 0)), (1, .int n), (2, .int k), (3, .int pr), (4, .int wh)]) hx hb dX9_blurring_77 hl (by decide) rfl (fun ls hl => ?_)
                        have loop79 : ∀ (n79 : Nat) (v8_79 : Int32) (v7_79 : Int32) (v6_79 : Int32) (v5_79 : Int32) (ct62 : Nat → va_E) (H : Heap) (locs : List Loc) (ls : Array Slot), ((625 - v8_79.toInt : Int).toNat < n79) → (0 ≤ v8_79.toInt ∧ v8_79.toInt ≤ 625) → (ct62 11 = .inl (g.2 2, 200, .inl f61)) → (IR g ad me ct62) → zP g (zw 32 ad ct62) H → va_D A (zw 32 ad ct62) → va_S A s.heap H locs → lv_has ls 10 [(8, .int v8_79), (7, .int v7_79), (6, .int v6_79), (5, .int v5_79), (0, .ref (ad 0)), (1, .int n), (2, .int k), (3, .int pr), (4, .int wh)] → W p l e (headSpec (zW yX9_blurring cX9_blurring 10 (some .int)) ({ frames := 4, cells := 0, slots := 0, locals := 101 })).room s m ([.ref (ad 0), .int n, .int k, .int pr, .int wh] : List Value).toArray below meth c H locs 0 0 (MQ below (va_Qi (fun (r : Int32) (_ : Unit) => (True)) (fun _ t => ∃ ct2 : Nat → va_E, zP g (zw 32 ad ct2) t.heap ∧ va_D A (zw 32 ad ct2) ∧ IR g ad me ct2) A) ([.ref (ad 0), .int n, .int k, .int pr, .int wh] : List Value).toArray s 0 0 A) (F0 m 79 ls []) := by
                          intro n79
                          induction n79 with
                          | zero =>
                            intro v8_79 v7_79 v6_79 v5_79 ct62 H locs ls hn79 b8_79 kp11_79 hI hP hD hS hl
                            exact absurd hn79 (Nat.not_lt_zero _)
                          | succ n79 ih79 =>
                            intro v8_79 v7_79 v6_79 v5_79 ct62 H locs ls hn79 b8_79 kp11_79 hI hP hD hS hl
                            refine lv_iload hx hb dX9_blurring_79 (lv_at hl 0 rfl) ?_
                            refine lv_sipush (v := 625) hx hb dX9_blurring_81 (by decide) ?_
                            refine lv_icmp_ge (tgt := 128) hx hb dX9_blurring_84 (by decide) (fun c63 => ?_) (fun c63 => ?_)
                            · skip
                              have c63 : 625 ≤ v8_79.toInt := (z_le (by decide : (625 : Int32).toInt = 625) rfl).mp c63
                              refine lv_iload hx hb dX9_blurring_128 (lv_at hl 8 rfl) ?_
                              refine lv_iconst (v := (-1)) hx hb dX9_blurring_130 (by decide) ?_
                              refine lv_icmp_ne (tgt := 137) hx hb dX9_blurring_131 (by decide) (fun c64 => ?_) (fun c64 => ?_)
                              · skip
                                have c64 : ¬ (wh.toInt = (-1)) := fun q => c64 ((z_eq rfl (by decide : ((-1) : Int32).toInt = (-1))).mpr q)
                                refine lv_iload hx hb dX9_blurring_137 (lv_at hl 8 rfl) ?_
                                refine lv_iconst (v := 4) hx hb dX9_blurring_139 (by decide) ?_
                                refine lv_icmp_ne (tgt := 146) hx hb dX9_blurring_140 (by decide) (fun c65 => ?_) (fun c65 => ?_)
                                · skip
                                  have c65 : ¬ (wh.toInt = 4) := fun q => c65 ((z_eq rfl (by decide : (4 : Int32).toInt = 4)).mpr q)
                                  refine lv_iconst (v := 3) hx hb dX9_blurring_146 (by decide) ?_
                                  refine lv_istore (lv' := [(8, .int 3), (7, .int v7_79), (6, .int v6_79), (5, .int v5_79), (0, .ref (ad 0)), (1, .int n), (2, .int k), (3, .int pr), (4, .int wh)]) hx hb dX9_blurring_147 hl (by decide) rfl (fun ls hl => ?_)
                                  have loop149 : ∀ (n149 : Nat) (v8_149 : Int32) (v5_149 : Int32) (ct66 : Nat → va_E) (H : Heap) (locs : List Loc) (ls : Array Slot), ((v8_149.toInt + 1 : Int).toNat < n149) → (-1 ≤ v8_149.toInt ∧ v8_149.toInt ≤ 3) → (IR g ad me ct66) → zP g (zw 32 ad ct66) H → va_D A (zw 32 ad ct66) → va_S A s.heap H locs → lv_has ls 10 [(8, .int v8_149), (7, .int v7_79), (6, .int v6_79), (5, .int v5_149), (0, .ref (ad 0)), (1, .int n), (2, .int k), (3, .int pr), (4, .int wh)] → W p l e (headSpec (zW yX9_blurring cX9_blurring 10 (some .int)) ({ frames := 4, cells := 0, slots := 0, locals := 101 })).room s m ([.ref (ad 0), .int n, .int k, .int pr, .int wh] : List Value).toArray below meth c H locs 0 0 (MQ below (va_Qi (fun (r : Int32) (_ : Unit) => (True)) (fun _ t => ∃ ct2 : Nat → va_E, zP g (zw 32 ad ct2) t.heap ∧ va_D A (zw 32 ad ct2) ∧ IR g ad me ct2) A) ([.ref (ad 0), .int n, .int k, .int pr, .int wh] : List Value).toArray s 0 0 A) (F0 m 149 ls []) := by
                                    intro n149
                                    induction n149 with
                                    | zero =>
                                      intro v8_149 v5_149 ct66 H locs ls hn149 b8_149 hI hP hD hS hl
                                      exact absurd hn149 (Nat.not_lt_zero _)
                                    | succ n149 ih149 =>
                                      intro v8_149 v5_149 ct66 H locs ls hn149 b8_149 hI hP hD hS hl
                                      refine lv_iload hx hb dX9_blurring_149 (lv_at hl 0 rfl) ?_
                                      refine lv_iload hx hb dX9_blurring_151 (lv_at hl 8 rfl) ?_
                                      refine lv_icmp_le (tgt := 168) hx hb dX9_blurring_153 (by decide) (fun c67 => ?_) (fun c67 => ?_)
                                      · skip
                                        have c67 : v8_149.toInt ≤ wh.toInt := (z_le rfl rfl).mp c67
                                        refine lv_iload hx hb dX9_blurring_168 (lv_at hl 3 rfl) ?_
                                        refine lv_iconst (v := 5) hx hb dX9_blurring_170 (by decide) ?_
                                        refine lv_irem hx hb dX9_blurring_171 (by decide) ?_
                                        refine lv_topi (fun x68 ex68 => ?_)
                                        exact W.iret (v := x68) hx hb hr (fun t ht hW => ⟨⟨x68, (), rfl, trivial, ct66, by rw [ht]; exact hP, hD, hI⟩, hS.F ht⟩) hS.2.2 dX9_blurring_172
                                      · skip
                                        have c67 : ¬ (v8_149.toInt ≤ wh.toInt) := fun q => c67 ((z_le rfl rfl).mpr q)
                                        refine lv_iload hx hb dX9_blurring_156 (lv_at hl 3 rfl) ?_
                                        refine lv_iconst (v := 5) hx hb dX9_blurring_158 (by decide) ?_
                                        refine lv_idiv hx hb dX9_blurring_159 (by decide) ?_
                                        refine lv_topi (fun x69 ex69 => ?_)
                                        refine lv_istore (lv' := [(5, .int x69), (8, .int v8_149), (7, .int v7_79), (6, .int v6_79), (0, .ref (ad 0)), (1, .int n), (2, .int k), (3, .int pr), (4, .int wh)]) hx hb dX9_blurring_160 hl (by decide) rfl (fun ls hl => ?_)
                                        obtain ⟨x70, ex70⟩ : ∃ y : Int32, y = v8_149 + (-1) := ⟨_, rfl⟩
                                        have tx70 : x70.toInt = v8_149.toInt + (-1) := by rw [ex70]; exact z_add rfl (by decide : ((-1) : Int32).toInt = (-1)) (by omega) (by omega)
                                        refine lv_iinc (v := x70) (lv' := [(8, .int x70), (5, .int x69), (7, .int v7_79), (6, .int v6_79), (0, .ref (ad 0)), (1, .int n), (2, .int k), (3, .int pr), (4, .int wh)]) hx hb dX9_blurring_162 hl (k := 1) rfl (by rw [ex70]; rfl) (by decide) rfl (fun ls hl => ?_)
                                        refine lv_goto (tgt := 149) hx hb dX9_blurring_165 (by decide) ?_
                                        exact ih149 x70 x69 ct66 _ _ ls (by omega) (by first | assumption | omega | decide) hI hP hD hS (lv_sub hl [0, 2, 3, 1, 4, 5, 6, 7, 8] rfl)
                                  exact loop149 (((3 : Int32).toInt + 1 : Int).toNat + 1) (3 : Int32) v5_79 ct62 _ _ ls (by omega) (by first | assumption | omega | decide) hI hP hD hS (lv_sub hl [0, 1, 2, 3, 4, 5, 6, 7, 8] rfl)
                                · skip
                                  have c65 : wh.toInt = 4 := (z_eq rfl (by decide : (4 : Int32).toInt = 4)).mp c65
                                  refine lv_iload hx hb dX9_blurring_143 (lv_at hl 1 rfl) ?_
                                  exact W.iret (v := v7_79) hx hb hr (fun t ht hW => ⟨⟨v7_79, (), rfl, trivial, ct62, by rw [ht]; exact hP, hD, hI⟩, hS.F ht⟩) hS.2.2 dX9_blurring_145
                              · skip
                                have c64 : wh.toInt = (-1) := (z_eq rfl (by decide : ((-1) : Int32).toInt = (-1))).mp c64
                                refine lv_iload hx hb dX9_blurring_134 (lv_at hl 2 rfl) ?_
                                exact W.iret (v := v6_79) hx hb hr (fun t ht hW => ⟨⟨v6_79, (), rfl, trivial, ct62, by rw [ht]; exact hP, hD, hI⟩, hS.F ht⟩) hS.2.2 dX9_blurring_136
                            · skip
                              have c63 : ¬ (625 ≤ v8_79.toInt) := fun q => c63 ((z_le (by decide : (625 : Int32).toInt = 625) rfl).mpr q)
                              refine lv_aload_n hx hb dX9_blurring_87 rfl (lv_at hl 4 rfl) ?_
                              refine lv_iload_n hx hb dX9_blurring_88 rfl (lv_at hl 5 rfl) ?_
                              refine lv_iload_n hx hb dX9_blurring_89 rfl (lv_at hl 6 rfl) ?_
                              refine lv_iload_n hx hb dX9_blurring_90 rfl (lv_at hl 7 rfl) ?_
                              refine lv_iload hx hb dX9_blurring_91 (lv_at hl 0 rfl) ?_
                              obtain ⟨bks72, lks73, gos74, shn75, tpd76, pl077, ln078, flt79, opn80, cmy81, wtg82, nm083, mst84, sus85, cut86, h87, h88, h89, h90, h91, h92, h93, h94, h95, h96, h97, h98, h99, h100, h101, h102, h103, h104, h105, h106, hs71⟩ := a9_0 hI.1
                              have hFc := zw_free hD hS hA
                              refine va_calli (va_runV (As := [.int n, .int k, .int pr, .int v8_79]) (rest := []) ⟨hx, hb, hml, hown, hg⟩ (k_X9_lossBy l g _ ad me ct62 n k pr v8_79 (by first | omega | decide) (by first | omega | decide) hI (by rw [kp11_79]; exact hTold)) (cwV 4 hg (z_gV mm_1448 mm_1450 mm_102 mm_117 mm_1451) rfl rfl rfl (by decide +kernel) ⟨Nat.le_of_ble_eq_true rfl, Nat.le_of_ble_eq_true rfl⟩) ⟨(zA.pre [.ref (ad 0), .int n, .int k, .int pr, .int v8_79] hP hK hD hN).1, va_recv hK hP (ci := 9) (q0 := 0) rfl (zw_at (by omega) hs71), (zA.pre [.ref (ad 0), .int n, .int k, .int pr, .int v8_79] hP hK hD hN).2⟩ rfl rfl hl.1 rfl (lv_room (Nat.le_of_ble_eq_true rfl)) dX9_blurring_93 ⟨Nat.le_of_ble_eq_true rfl, Nat.le_of_ble_eq_true rfl⟩) hS (fun q _ h => hFc q h) hFc (fun r107 _ t H1 locs ht hvm hr107 hB hz1 hk1 hS => ?_)
                              obtain ⟨ct108, hP1, hD1, hI, hk109⟩ := hB
                              rw [ht] at hP1
                              have hD := hD1.weaken (fun _ _ _ h => hFc _ h)
                              generalize H1 = H at hP1 hS ⊢
                              have hP := hP1
                              refine W.widen (k := 0) (n := 0) (Nat.le_refl _) (Nat.le_refl _) ?_
                              have hs110 : ct108 11 = .inl (g.2 2, 200, .inl f61) := hk109.trans kp11_79
                              refine lv_istore (lv' := [(9, .int r107), (8, .int v8_79), (7, .int v7_79), (6, .int v6_79), (5, .int v5_79), (0, .ref (ad 0)), (1, .int n), (2, .int k), (3, .int pr), (4, .int wh)]) hx hb dX9_blurring_96 hl (by decide) rfl (fun ls hl => ?_)
                              refine lv_iload hx hb dX9_blurring_98 (lv_at hl 0 rfl) ?_
                              refine lv_iload hx hb dX9_blurring_100 (lv_at hl 3 rfl) ?_
                              refine lv_icmp_lt (tgt := 108) hx hb dX9_blurring_102 (by decide) (fun c111 => ?_) (fun c111 => ?_)
                              · skip
                                have c111 : r107.toInt < v6_79.toInt := (z_lt rfl rfl).mp c111
                                refine lv_iload hx hb dX9_blurring_108 (lv_at hl 0 rfl) ?_
                                refine lv_istore (lv' := [(6, .int r107), (9, .int r107), (8, .int v8_79), (7, .int v7_79), (5, .int v5_79), (0, .ref (ad 0)), (1, .int n), (2, .int k), (3, .int pr), (4, .int wh)]) hx hb dX9_blurring_110 hl (by decide) rfl (fun ls hl => ?_)
                                refine lv_iload hx hb dX9_blurring_112 (lv_at hl 2 rfl) ?_
                                refine lv_istore (lv' := [(5, .int v8_79), (6, .int r107), (9, .int r107), (8, .int v8_79), (7, .int v7_79), (0, .ref (ad 0)), (1, .int n), (2, .int k), (3, .int pr), (4, .int wh)]) hx hb dX9_blurring_114 hl (by decide) rfl (fun ls hl => ?_)
                                refine lv_aload_n hx hb dX9_blurring_116 rfl (lv_at hl 5 rfl) ?_
                                obtain ⟨bks113, lks114, gos115, shn116, tpd117, pl0118, ln0119, flt120, opn121, cmy122, wtg123, nm0124, mst125, sus126, cut127, h128, h129, h130, h131, h132, h133, h134, h135, h136, h137, h138, h139, h140, h141, h142, h143, h144, h145, h146, h147, hs112⟩ := a9_0 hI.1
                                refine va_get (D := g.1) (ci := 9) (v := .int cut127) (C := RX9) (T := TX9) (N := 47) hx hb hg inG9 hown hK hP 0 (zw_at (by omega) hs112) rfl 46 (by decide) (hg _ mm_1004) (fun _ h9 => h9) rfl dX9_blurring_117 ?_
                                refine lv_istore (lv' := [(7, .int cut127), (5, .int v8_79), (6, .int r107), (9, .int r107), (8, .int v8_79), (0, .ref (ad 0)), (1, .int n), (2, .int k), (3, .int pr), (4, .int wh)]) hx hb dX9_blurring_120 hl (by decide) rfl (fun ls hl => ?_)
                                obtain ⟨x148, ex148⟩ : ∃ y : Int32, y = v8_79 + 1 := ⟨_, rfl⟩
                                have tx148 : x148.toInt = v8_79.toInt + 1 := by rw [ex148]; exact z_add rfl (by decide : (1 : Int32).toInt = 1) (by omega) (by omega)
                                refine lv_iinc (v := x148) (lv' := [(8, .int x148), (7, .int cut127), (5, .int v8_79), (6, .int r107), (9, .int r107), (0, .ref (ad 0)), (1, .int n), (2, .int k), (3, .int pr), (4, .int wh)]) hx hb dX9_blurring_122 hl (k := 4) rfl (by rw [ex148]; rfl) (by decide) rfl (fun ls hl => ?_)
                                refine lv_goto (tgt := 79) hx hb dX9_blurring_125 (by decide) ?_
                                exact ih79 x148 cut127 r107 v8_79 ct108 _ _ ls (by omega) (by first | assumption | omega | decide) hs110 hI hP hD hS (lv_sub hl [0, 1, 3, 2, 5, 6, 7, 8, 9] rfl)
                              · skip
                                have c111 : ¬ (r107.toInt < v6_79.toInt) := fun q => c111 ((z_lt rfl rfl).mpr q)
                                refine lv_goto (tgt := 122) hx hb dX9_blurring_105 (by decide) ?_
                                obtain ⟨x149, ex149⟩ : ∃ y : Int32, y = v8_79 + 1 := ⟨_, rfl⟩
                                have tx149 : x149.toInt = v8_79.toInt + 1 := by rw [ex149]; exact z_add rfl (by decide : (1 : Int32).toInt = 1) (by omega) (by omega)
                                refine lv_iinc (v := x149) (lv' := [(8, .int x149), (9, .int r107), (7, .int v7_79), (6, .int v6_79), (5, .int v5_79), (0, .ref (ad 0)), (1, .int n), (2, .int k), (3, .int pr), (4, .int wh)]) hx hb dX9_blurring_122 hl (k := 1) rfl (by rw [ex149]; rfl) (by decide) rfl (fun ls hl => ?_)
                                refine lv_goto (tgt := 79) hx hb dX9_blurring_125 (by decide) ?_
                                exact ih79 x149 v7_79 v6_79 v5_79 ct108 _ _ ls (by omega) (by first | assumption | omega | decide) hs110 hI hP hD hS (lv_sub hl [0, 2, 3, 4, 5, 6, 7, 8, 9] rfl)
                        exact loop79 ((625 - (0 : Int32).toInt : Int).toNat + 1) (0 : Int32) (0 : Int32) (1000000000 : Int32) (0 : Int32) ct54 _ _ ls (by omega) (by first | assumption | omega | decide) hs60 hI hP hD hS (lv_sub hl [0, 1, 2, 3, 4, 5, 6, 7, 8] rfl)
                      · skip
                        exact absurd c59 (by decide)
                    · skip
                      obtain rfl := hr57
                      refine lv_if_ne (tgt := 65) hx hb dX9_blurring_59 (by decide) (fun c150 => ?_) (fun c150 => ?_)
                      · skip
                        exact absurd c150 (by decide)
                      · skip
                        refine lv_bipush (v := (-2)) hx hb dX9_blurring_62 (by decide) ?_
                        have q151 : ((-2) : Int32).toInt = -2 := by decide
                        exact W.iret (v := (-2)) hx hb hr (fun t ht hW => ⟨⟨(-2), (), rfl, trivial, ct54, by rw [ht]; exact hP, hD, hI⟩, hS.F ht⟩) hS.2.2 dX9_blurring_64
                  · skip
                    have c53 : ¬ (n.toInt ≤ tpd22.toInt) := fun q => c53 ((z_le rfl rfl).mpr q)
                    refine lv_bipush (v := (-3)) hx hb dX9_blurring_46 (by decide) ?_
                    have q152 : ((-3) : Int32).toInt = -3 := by decide
                    exact W.iret (v := (-3)) hx hb hr (fun t ht hW => ⟨⟨(-3), (), rfl, trivial, ct, by rw [ht]; exact hP, hD, hI⟩, hS.F ht⟩) hS.2.2 dX9_blurring_48
              · skip
                obtain ⟨rfl, h153⟩ := hr13
                replace h153 : ¬ ((-1 : Int) ≤ wh.toInt ∧ wh.toInt ≤ (4 : Int)) := h153
                refine lv_if_eq (tgt := 46) hx hb dX9_blurring_35 (by decide) (fun c154 => ?_) (fun c154 => ?_)
                · skip
                  refine lv_bipush (v := (-3)) hx hb dX9_blurring_46 (by decide) ?_
                  have q155 : ((-3) : Int32).toInt = -3 := by decide
                  exact W.iret (v := (-3)) hx hb hr (fun t ht hW => ⟨⟨(-3), (), rfl, trivial, ct, by rw [ht]; exact hP, hD, hI⟩, hS.F ht⟩) hS.2.2 dX9_blurring_48
                · skip
                  exact absurd c154 (by decide)
          · skip
            obtain ⟨rfl, h156⟩ := hr9
            replace h156 : ¬ ((0 : Int) ≤ pr.toInt ∧ pr.toInt ≤ (9999 : Int)) := h156
            refine lv_if_eq (tgt := 46) hx hb dX9_blurring_25 (by decide) (fun c157 => ?_) (fun c157 => ?_)
            · skip
              refine lv_bipush (v := (-3)) hx hb dX9_blurring_46 (by decide) ?_
              have q158 : ((-3) : Int32).toInt = -3 := by decide
              exact W.iret (v := (-3)) hx hb hr (fun t ht hW => ⟨⟨(-3), (), rfl, trivial, ct, by rw [ht]; exact hP, hD, hI⟩, hS.F ht⟩) hS.2.2 dX9_blurring_48
            · skip
              exact absurd c157 (by decide)
      · skip
        obtain ⟨rfl, h159⟩ := hr5
        replace h159 : ¬ (1 ≤ k.toInt ∧ k.toInt ≤ 16) := h159
        refine lv_if_eq (tgt := 46) hx hb dX9_blurring_14 (by decide) (fun c160 => ?_) (fun c160 => ?_)
        · skip
          refine lv_bipush (v := (-3)) hx hb dX9_blurring_46 (by decide) ?_
          have q161 : ((-3) : Int32).toInt = -3 := by decide
          exact W.iret (v := (-3)) hx hb hr (fun t ht hW => ⟨⟨(-3), (), rfl, trivial, ct, by rw [ht]; exact hP, hD, hI⟩, hS.F ht⟩) hS.2.2 dX9_blurring_48
        · skip
          exact absurd c160 (by decide)
  · skip
    obtain ⟨rfl, h162⟩ := hr1
    replace h162 : ¬ ((1 : Int) ≤ n.toInt ∧ n.toInt ≤ (8 : Int)) := h162
    refine lv_if_eq (tgt := 46) hx hb dX9_blurring_7 (by decide) (fun c163 => ?_) (fun c163 => ?_)
    · skip
      refine lv_bipush (v := (-3)) hx hb dX9_blurring_46 (by decide) ?_
      have q164 : ((-3) : Int32).toInt = -3 := by decide
      exact W.iret (v := (-3)) hx hb hr (fun t ht hW => ⟨⟨(-3), (), rfl, trivial, ct, by rw [ht]; exact hP, hD, hI⟩, hS.F ht⟩) hS.2.2 dX9_blurring_48
    · skip
      exact absurd c163 (by decide)

set_option maxHeartbeats 4000000 in
set_option maxRecDepth 100000 in
theorem k_X9_bestSwap (l : Launch) (g : zG) (sz : Nat) (ad : Nat → Nat) (me : Int32) (ct : Nat → va_E) (b : Int32) (k : Int32) (wh : Int32) (hI : IR g ad me ct) : Met l yX9_bestSwap (zW yX9_bestSwap cX9_bestSwap 10 (some .int)) ({ frames := 7, cells := 0, slots := 0, locals := 174 }) (va_Pc [.ref (ad 0), .int b, .int k, .int wh] (zA g (zw 32 ad ct) sz)) (va_Qi (fun (r : Int32) (_ : Unit) => (True)) (fun _ t => ∃ ct2 : Nat → va_E, zP g (zw 32 ad ct2) t.heap ∧ va_D (va_A (zw 32 ad ct) sz) (zw 32 ad ct2) ∧ IR g ad me ct2) (va_A (zw 32 ad ct) sz)) 0 0 (va_A (zw 32 ad ct) sz) := by
  refine Met.ofW (cc := cX9_bestSwap) (maxL := 10) (ret := (some .int)) (by decide) rfl ?_
  intro p e s m args below meth c s₁ B hml hv
  obtain ⟨rfl, hsz, hP, hK, hD0, hN⟩ := hv
  have hx := B.exec
  have hb := B.bytes
  have hr := B.returns
  have hg := zW.law (atoms_spec (ws := (zW yX9_bestSwap cX9_bestSwap 10 (some .int))) B.pre)
  have hown : s.vm.findClass RX9 = some m.cls := findClass_of_methodNamed B.named
  have hlocks := B.notSynchronized
  have hpe0 := hI.1.1
  subst hsz
  have hD := hD0.self (sz := s.heap.size)
  generalize hAe : va_A (zw 32 ad ct) s.heap.size = A at hD ⊢
  have hA : ∀ q : Nat, s.heap.size ≤ q → A q := fun q h => by rw [← hAe]; exact Or.inr h
  have hS : va_S A s.heap s.heap [] := va_S.rf
  have hl := lv_entry ([.ref (ad 0), .int b, .int k, .int wh]) (n := 10) (Nat.le_of_ble_eq_true rfl)
  rw [lg_entry_eq]
  generalize (lg_sl ([.ref (ad 0), .int b, .int k, .int wh]) ++ List.replicate (10 - (lg_sl ([.ref (ad 0), .int b, .int k, .int wh])).length) Slot.unset).toArray = ls at hl ⊢
  have hl : lv_has ls 10 [(0, .ref (ad 0)), (1, .int b), (2, .int k), (3, .int wh)] := hl
  have rg_b := z_rng b
  have rg_k := z_rng k
  have rg_wh := z_rng wh
  refine lv_aload_n hx hb dX9_bestSwap_0 rfl (lv_at hl 0 rfl) ?_
  refine lv_iload_n hx hb dX9_bestSwap_1 rfl (lv_at hl 1 rfl) ?_
  obtain ⟨bks2, lks3, gos4, shn5, tpd6, pl07, ln08, flt9, opn10, cmy11, wtg12, nm013, mst14, sus15, cut16, h17, h18, h19, h20, h21, h22, h23, h24, h25, h26, h27, h28, h29, h30, h31, h32, h33, h34, h35, h36, hs1⟩ := a9_0 hI.1
  refine zc_i (va_runV (As := [.int b]) (rest := []) ⟨hx, hb, hml, hown, hg⟩ (k_X9_isBook l g ad me ct b hI) (cwV 1 hg (z_gV mm_1174 mm_1176 mm_58 mm_117 mm_1177) rfl rfl rfl (by decide +kernel) ⟨Nat.le_of_ble_eq_true rfl, Nat.le_of_ble_eq_true rfl⟩) ⟨(zR.pre [.ref (ad 0), .int b] hP hK hN).1, va_recv hK hP (ci := 9) (q0 := 0) rfl (zw_at (by omega) hs1), (zR.pre [.ref (ad 0), .int b] hP hK hN).2⟩ rfl rfl hl.1 rfl (lv_room (Nat.le_of_ble_eq_true rfl)) dX9_bestSwap_2 ⟨Nat.le_of_ble_eq_true rfl, Nat.le_of_ble_eq_true rfl⟩) (fun r37 hr37 => ?_)
  rcases hr37 with hr37 | hr37
  · skip
    obtain ⟨rfl, h38, h39⟩ := hr37
    replace h38 : 0 ≤ b.toInt := h38
    replace h39 : b.toInt ≤ 3 := h39
    refine lv_if_eq (tgt := 24) hx hb dX9_bestSwap_5 (by decide) (fun c40 => ?_) (fun c40 => ?_)
    · skip
      exact absurd c40 (by decide)
    · skip
      refine lv_iload_n hx hb dX9_bestSwap_8 rfl (lv_at hl 2 rfl) ?_
      refine zc_i (va_runS (As := [.int k]) (rest := []) ⟨hx, hb, hml, hown, hg⟩ (k_X9_isMany l g ad me ct k hI) (va_cwS 1 hg (z_gS mm_1404 mm_1405 mm_117 mm_1406) rfl rfl rfl (by decide +kernel) ⟨Nat.le_of_ble_eq_true rfl, Nat.le_of_ble_eq_true rfl⟩) (zR.pre [.int k] hP hK hN) rfl rfl hl.1 rfl (lv_room (Nat.le_of_ble_eq_true rfl)) dX9_bestSwap_9 ⟨Nat.le_of_ble_eq_true rfl, Nat.le_of_ble_eq_true rfl⟩) (fun r41 hr41 => ?_)
      rcases hr41 with hr41 | hr41
      · skip
        obtain ⟨rfl, h42, h43⟩ := hr41
        replace h42 : 1 ≤ k.toInt := h42
        replace h43 : k.toInt ≤ 16 := h43
        refine lv_if_eq (tgt := 24) hx hb dX9_bestSwap_12 (by decide) (fun c44 => ?_) (fun c44 => ?_)
        · skip
          exact absurd c44 (by decide)
        · skip
          refine lv_iload_n hx hb dX9_bestSwap_15 rfl (lv_at hl 3 rfl) ?_
          refine lv_iconst (v := 0) hx hb dX9_bestSwap_16 (by decide) ?_
          refine lv_iconst (v := 3) hx hb dX9_bestSwap_17 (by decide) ?_
          refine zc_i (va_runS (As := [.int wh, .int 0, .int 3]) (rest := []) ⟨hx, hb, hml, hown, hg⟩ (k_X9_in l g ad me ct wh (0 : Int32) (3 : Int32) hI) (va_cwS 3 hg (z_gS mm_1109 mm_1110 mm_117 mm_1111) rfl rfl rfl (by decide +kernel) ⟨Nat.le_of_ble_eq_true rfl, Nat.le_of_ble_eq_true rfl⟩) (zR.pre [.int wh, .int 0, .int 3] hP hK hN) rfl rfl hl.1 rfl (lv_room (Nat.le_of_ble_eq_true rfl)) dX9_bestSwap_18 ⟨Nat.le_of_ble_eq_true rfl, Nat.le_of_ble_eq_true rfl⟩) (fun r45 hr45 => ?_)
          rcases hr45 with hr45 | hr45
          · skip
            obtain ⟨rfl, h46, h47⟩ := hr45
            replace h46 : (0 : Int) ≤ wh.toInt := h46
            replace h47 : wh.toInt ≤ (3 : Int) := h47
            refine lv_if_ne (tgt := 26) hx hb dX9_bestSwap_21 (by decide) (fun c48 => ?_) (fun c48 => ?_)
            · skip
              refine lv_iconst (v := (-1)) hx hb dX9_bestSwap_26 (by decide) ?_
              refine lv_istore (lv' := [(4, .int (-1)), (0, .ref (ad 0)), (1, .int b), (2, .int k), (3, .int wh)]) hx hb dX9_bestSwap_27 hl (by decide) rfl (fun ls hl => ?_)
              refine lv_iconst (v := (-1)) hx hb dX9_bestSwap_29 (by decide) ?_
              refine lv_istore (lv' := [(5, .int (-1)), (4, .int (-1)), (0, .ref (ad 0)), (1, .int b), (2, .int k), (3, .int wh)]) hx hb dX9_bestSwap_30 hl (by decide) rfl (fun ls hl => ?_)
              refine lv_iconst (v := 0) hx hb dX9_bestSwap_32 (by decide) ?_
              refine lv_istore (lv' := [(6, .int 0), (5, .int (-1)), (4, .int (-1)), (0, .ref (ad 0)), (1, .int b), (2, .int k), (3, .int wh)]) hx hb dX9_bestSwap_33 hl (by decide) rfl (fun ls hl => ?_)
              have loop35 : ∀ (n35 : Nat) (v6_35 : Int32) (v5_35 : Int32) (v4_35 : Int32) (ct49 : Nat → va_E) (H : Heap) (locs : List Loc) (ls : Array Slot), ((4 - v6_35.toInt : Int).toNat < n35) → (0 ≤ v6_35.toInt ∧ v6_35.toInt ≤ 4) → (IR g ad me ct49) → zP g (zw 32 ad ct49) H → va_D A (zw 32 ad ct49) → va_S A s.heap H locs → lv_has ls 10 [(6, .int v6_35), (5, .int v5_35), (4, .int v4_35), (0, .ref (ad 0)), (1, .int b), (2, .int k), (3, .int wh)] → W p l e (headSpec (zW yX9_bestSwap cX9_bestSwap 10 (some .int)) ({ frames := 7, cells := 0, slots := 0, locals := 174 })).room s m ([.ref (ad 0), .int b, .int k, .int wh] : List Value).toArray below meth c H locs 0 0 (MQ below (va_Qi (fun (r : Int32) (_ : Unit) => (True)) (fun _ t => ∃ ct2 : Nat → va_E, zP g (zw 32 ad ct2) t.heap ∧ va_D A (zw 32 ad ct2) ∧ IR g ad me ct2) A) ([.ref (ad 0), .int b, .int k, .int wh] : List Value).toArray s 0 0 A) (F0 m 35 ls []) := by
                intro n35
                induction n35 with
                | zero =>
                  intro v6_35 v5_35 v4_35 ct49 H locs ls hn35 b6_35 hI hP hD hS hl
                  exact absurd hn35 (Nat.not_lt_zero _)
                | succ n35 ih35 =>
                  intro v6_35 v5_35 v4_35 ct49 H locs ls hn35 b6_35 hI hP hD hS hl
                  refine lv_iload hx hb dX9_bestSwap_35 (lv_at hl 0 rfl) ?_
                  refine lv_iconst (v := 4) hx hb dX9_bestSwap_37 (by decide) ?_
                  refine lv_icmp_ge (tgt := 171) hx hb dX9_bestSwap_38 (by decide) (fun c50 => ?_) (fun c50 => ?_)
                  · skip
                    have c50 : 4 ≤ v6_35.toInt := (z_le (by decide : (4 : Int32).toInt = 4) rfl).mp c50
                    refine lv_iload hx hb dX9_bestSwap_171 (lv_at hl 2 rfl) ?_
                    refine lv_iconst (v := (-1)) hx hb dX9_bestSwap_173 (by decide) ?_
                    refine lv_icmp_ne (tgt := 180) hx hb dX9_bestSwap_174 (by decide) (fun c51 => ?_) (fun c51 => ?_)
                    · skip
                      have c51 : ¬ (v4_35.toInt = (-1)) := fun q => c51 ((z_eq rfl (by decide : ((-1) : Int32).toInt = (-1))).mpr q)
                      refine lv_iload_n hx hb dX9_bestSwap_180 rfl (lv_at hl 6 rfl) ?_
                      refine lv_if_ne (tgt := 192) hx hb dX9_bestSwap_181 (by decide) (fun c52 => ?_) (fun c52 => ?_)
                      · skip
                        have c52 : ¬ (wh.toInt = 0) := fun q => c52 ((z_eq rfl (by decide : (0 : Int32).toInt = 0)).mpr q)
                        refine lv_iload_n hx hb dX9_bestSwap_192 rfl (lv_at hl 6 rfl) ?_
                        refine lv_iconst (v := 1) hx hb dX9_bestSwap_193 (by decide) ?_
                        refine lv_icmp_ne (tgt := 208) hx hb dX9_bestSwap_194 (by decide) (fun c53 => ?_) (fun c53 => ?_)
                        · skip
                          have c53 : ¬ (wh.toInt = 1) := fun q => c53 ((z_eq rfl (by decide : (1 : Int32).toInt = 1)).mpr q)
                          refine lv_iload_n hx hb dX9_bestSwap_208 rfl (lv_at hl 6 rfl) ?_
                          refine lv_iconst (v := 2) hx hb dX9_bestSwap_209 (by decide) ?_
                          refine lv_icmp_ne (tgt := 221) hx hb dX9_bestSwap_210 (by decide) (fun c54 => ?_) (fun c54 => ?_)
                          · skip
                            have c54 : ¬ (wh.toInt = 2) := fun q => c54 ((z_eq rfl (by decide : (2 : Int32).toInt = 2)).mpr q)
                            refine lv_iload hx hb dX9_bestSwap_221 (lv_at hl 1 rfl) ?_
                            exact W.iret (v := v5_35) hx hb hr (fun t ht hW => ⟨⟨v5_35, (), rfl, trivial, ct49, by rw [ht]; exact hP, hD, hI⟩, hS.F ht⟩) hS.2.2 dX9_bestSwap_223
                          · skip
                            have c54 : wh.toInt = 2 := (z_eq rfl (by decide : (2 : Int32).toInt = 2)).mp c54
                            refine lv_iload hx hb dX9_bestSwap_213 (lv_at hl 2 rfl) ?_
                            refine lv_bipush (v := 8) hx hb dX9_bestSwap_215 (by decide) ?_
                            refine lv_irem hx hb dX9_bestSwap_217 (by decide) ?_
                            refine lv_topi (fun x55 ex55 => ?_)
                            refine lv_goto (tgt := 223) hx hb dX9_bestSwap_218 (by decide) ?_
                            exact W.iret (v := x55) hx hb hr (fun t ht hW => ⟨⟨x55, (), rfl, trivial, ct49, by rw [ht]; exact hP, hD, hI⟩, hS.F ht⟩) hS.2.2 dX9_bestSwap_223
                        · skip
                          have c53 : wh.toInt = 1 := (z_eq rfl (by decide : (1 : Int32).toInt = 1)).mp c53
                          refine lv_iload hx hb dX9_bestSwap_197 (lv_at hl 2 rfl) ?_
                          refine lv_bipush (v := 8) hx hb dX9_bestSwap_199 (by decide) ?_
                          refine lv_idiv hx hb dX9_bestSwap_201 (by decide) ?_
                          refine lv_topi (fun x56 ex56 => ?_)
                          refine lv_bipush (v := 8) hx hb dX9_bestSwap_202 (by decide) ?_
                          refine lv_irem hx hb dX9_bestSwap_204 (by decide) ?_
                          refine lv_topi (fun x57 ex57 => ?_)
                          refine lv_goto (tgt := 223) hx hb dX9_bestSwap_205 (by decide) ?_
                          exact W.iret (v := x57) hx hb hr (fun t ht hW => ⟨⟨x57, (), rfl, trivial, ct49, by rw [ht]; exact hP, hD, hI⟩, hS.F ht⟩) hS.2.2 dX9_bestSwap_223
                      · skip
                        have c52 : wh.toInt = 0 := (z_eq rfl (by decide : (0 : Int32).toInt = 0)).mp c52
                        refine lv_iload hx hb dX9_bestSwap_184 (lv_at hl 2 rfl) ?_
                        refine lv_bipush (v := 64) hx hb dX9_bestSwap_186 (by decide) ?_
                        refine lv_idiv hx hb dX9_bestSwap_188 (by decide) ?_
                        refine lv_topi (fun x58 ex58 => ?_)
                        refine lv_goto (tgt := 223) hx hb dX9_bestSwap_189 (by decide) ?_
                        exact W.iret (v := x58) hx hb hr (fun t ht hW => ⟨⟨x58, (), rfl, trivial, ct49, by rw [ht]; exact hP, hD, hI⟩, hS.F ht⟩) hS.2.2 dX9_bestSwap_223
                    · skip
                      have c51 : v4_35.toInt = (-1) := (z_eq rfl (by decide : ((-1) : Int32).toInt = (-1))).mp c51
                      refine lv_bipush (v := (-2)) hx hb dX9_bestSwap_177 (by decide) ?_
                      have q59 : ((-2) : Int32).toInt = -2 := by decide
                      exact W.iret (v := (-2)) hx hb hr (fun t ht hW => ⟨⟨(-2), (), rfl, trivial, ct49, by rw [ht]; exact hP, hD, hI⟩, hS.F ht⟩) hS.2.2 dX9_bestSwap_179
                  · skip
                    have c50 : ¬ (4 ≤ v6_35.toInt) := fun q => c50 ((z_le (by decide : (4 : Int32).toInt = 4) rfl).mpr q)
                    refine lv_iconst (v := 0) hx hb dX9_bestSwap_41 (by decide) ?_
                    refine lv_istore (lv' := [(7, .int 0), (6, .int v6_35), (5, .int v5_35), (4, .int v4_35), (0, .ref (ad 0)), (1, .int b), (2, .int k), (3, .int wh)]) hx hb dX9_bestSwap_42 hl (by decide) rfl (fun ls hl => ?_)
                    have loop44 : ∀ (n44 : Nat) (v7_44 : Int32) (v5_44 : Int32) (v4_44 : Int32) (ct60 : Nat → va_E) (H : Heap) (locs : List Loc) (ls : Array Slot), ((8 - v7_44.toInt : Int).toNat < n44) → (0 ≤ v7_44.toInt ∧ v7_44.toInt ≤ 8) → (IR g ad me ct60) → zP g (zw 32 ad ct60) H → va_D A (zw 32 ad ct60) → va_S A s.heap H locs → lv_has ls 10 [(7, .int v7_44), (6, .int v6_35), (5, .int v5_44), (4, .int v4_44), (0, .ref (ad 0)), (1, .int b), (2, .int k), (3, .int wh)] → W p l e (headSpec (zW yX9_bestSwap cX9_bestSwap 10 (some .int)) ({ frames := 7, cells := 0, slots := 0, locals := 174 })).room s m ([.ref (ad 0), .int b, .int k, .int wh] : List Value).toArray below meth c H locs 0 0 (MQ below (va_Qi (fun (r : Int32) (_ : Unit) => (True)) (fun _ t => ∃ ct2 : Nat → va_E, zP g (zw 32 ad ct2) t.heap ∧ va_D A (zw 32 ad ct2) ∧ IR g ad me ct2) A) ([.ref (ad 0), .int b, .int k, .int wh] : List Value).toArray s 0 0 A) (F0 m 44 ls []) := by
                      intro n44
                      induction n44 with
                      | zero =>
                        intro v7_44 v5_44 v4_44 ct60 H locs ls hn44 b7_44 hI hP hD hS hl
                        exact absurd hn44 (Nat.not_lt_zero _)
                      | succ n44 ih44 =>
                        intro v7_44 v5_44 v4_44 ct60 H locs ls hn44 b7_44 hI hP hD hS hl
                        refine lv_iload hx hb dX9_bestSwap_44 (lv_at hl 0 rfl) ?_
                        refine lv_aload_n hx hb dX9_bestSwap_46 rfl (lv_at hl 4 rfl) ?_
                        obtain ⟨bks62, lks63, gos64, shn65, tpd66, pl067, ln068, flt69, opn70, cmy71, wtg72, nm073, mst74, sus75, cut76, h77, h78, h79, h80, h81, h82, h83, h84, h85, h86, h87, h88, h89, h90, h91, h92, h93, h94, h95, h96, hs61⟩ := a9_0 hI.1
                        refine va_get (D := g.1) (ci := 9) (v := .ref (ad 5)) (C := RX9) (T := TX9) (N := 47) hx hb hg inG9 hown hK hP 0 (zw_at (by omega) hs61) rfl 9 (by decide) (hg _ mm_967) (fun _ h9 => h9) rfl dX9_bestSwap_47 ?_
                        refine lv_iload_n hx hb dX9_bestSwap_50 rfl (lv_at hl 5 rfl) ?_
                        obtain ⟨f98, hp99, hs97⟩ := a9_5 hI.1
                        refine va_iald hx hb hK hP 5 0 (zw_at (by omega) hs97) rfl (z_in rfl (by omega) (by omega)) dX9_bestSwap_51 ?_
                        refine lv_topi (fun y100 ey100 => ?_)
                        have hy100 := hp99 _ (z_clt (x := b) rfl (by omega) (by omega))
                        rw [← ey100] at hy100
                        have hy100 : 0 ≤ y100.toInt ∧ y100.toInt ≤ 8 := hy100
                        refine lv_icmp_ge (tgt := 165) hx hb dX9_bestSwap_52 (by decide) (fun c101 => ?_) (fun c101 => ?_)
                        · skip
                          have c101 : y100.toInt ≤ v7_44.toInt := (z_le rfl rfl).mp c101
                          obtain ⟨x102, ex102⟩ : ∃ y : Int32, y = v6_35 + 1 := ⟨_, rfl⟩
                          have tx102 : x102.toInt = v6_35.toInt + 1 := by rw [ex102]; exact z_add rfl (by decide : (1 : Int32).toInt = 1) (by omega) (by omega)
                          refine lv_iinc (v := x102) (lv' := [(6, .int x102), (7, .int v7_44), (5, .int v5_44), (4, .int v4_44), (0, .ref (ad 0)), (1, .int b), (2, .int k), (3, .int wh)]) hx hb dX9_bestSwap_165 hl (k := 1) rfl (by rw [ex102]; rfl) (by decide) rfl (fun ls hl => ?_)
                          refine lv_goto (tgt := 35) hx hb dX9_bestSwap_168 (by decide) ?_
                          exact ih35 x102 v5_44 v4_44 ct60 _ _ ls (by omega) (by first | assumption | omega | decide) hI hP hD hS (lv_sub hl [0, 2, 3, 4, 5, 6, 7] rfl)
                        · skip
                          have c101 : ¬ (y100.toInt ≤ v7_44.toInt) := fun q => c101 ((z_le rfl rfl).mpr q)
                          refine lv_iload hx hb dX9_bestSwap_55 (lv_at hl 0 rfl) ?_
                          refine lv_iconst (v := 1) hx hb dX9_bestSwap_57 (by decide) ?_
                          refine lv_iadd hx hb dX9_bestSwap_58 ?_
                          refine lv_topi (fun x103 ex103 => ?_)
                          have tx103 : x103.toInt = v7_44.toInt + 1 := by rw [ex103]; exact z_add rfl (by decide : (1 : Int32).toInt = 1) (by omega) (by omega)
                          refine lv_istore (lv' := [(8, .int x103), (7, .int v7_44), (6, .int v6_35), (5, .int v5_44), (4, .int v4_44), (0, .ref (ad 0)), (1, .int b), (2, .int k), (3, .int wh)]) hx hb dX9_bestSwap_59 hl (by decide) rfl (fun ls hl => ?_)
                          have loop61 : ∀ (n61 : Nat) (v8_61 : Int32) (v5_61 : Int32) (v4_61 : Int32) (ct104 : Nat → va_E) (H : Heap) (locs : List Loc) (ls : Array Slot), ((8 - v8_61.toInt : Int).toNat < n61) → (0 ≤ v8_61.toInt ∧ v8_61.toInt ≤ 8) → (IR g ad me ct104) → zP g (zw 32 ad ct104) H → va_D A (zw 32 ad ct104) → va_S A s.heap H locs → lv_has ls 10 [(8, .int v8_61), (7, .int v7_44), (6, .int v6_35), (5, .int v5_61), (4, .int v4_61), (0, .ref (ad 0)), (1, .int b), (2, .int k), (3, .int wh)] → W p l e (headSpec (zW yX9_bestSwap cX9_bestSwap 10 (some .int)) ({ frames := 7, cells := 0, slots := 0, locals := 174 })).room s m ([.ref (ad 0), .int b, .int k, .int wh] : List Value).toArray below meth c H locs 0 0 (MQ below (va_Qi (fun (r : Int32) (_ : Unit) => (True)) (fun _ t => ∃ ct2 : Nat → va_E, zP g (zw 32 ad ct2) t.heap ∧ va_D A (zw 32 ad ct2) ∧ IR g ad me ct2) A) ([.ref (ad 0), .int b, .int k, .int wh] : List Value).toArray s 0 0 A) (F0 m 61 ls []) := by
                            intro n61
                            induction n61 with
                            | zero =>
                              intro v8_61 v5_61 v4_61 ct104 H locs ls hn61 b8_61 hI hP hD hS hl
                              exact absurd hn61 (Nat.not_lt_zero _)
                            | succ n61 ih61 =>
                              intro v8_61 v5_61 v4_61 ct104 H locs ls hn61 b8_61 hI hP hD hS hl
                              refine lv_iload hx hb dX9_bestSwap_61 (lv_at hl 0 rfl) ?_
                              refine lv_aload_n hx hb dX9_bestSwap_63 rfl (lv_at hl 5 rfl) ?_
                              obtain ⟨bks106, lks107, gos108, shn109, tpd110, pl0111, ln0112, flt113, opn114, cmy115, wtg116, nm0117, mst118, sus119, cut120, h121, h122, h123, h124, h125, h126, h127, h128, h129, h130, h131, h132, h133, h134, h135, h136, h137, h138, h139, h140, hs105⟩ := a9_0 hI.1
                              refine va_get (D := g.1) (ci := 9) (v := .ref (ad 5)) (C := RX9) (T := TX9) (N := 47) hx hb hg inG9 hown hK hP 0 (zw_at (by omega) hs105) rfl 9 (by decide) (hg _ mm_967) (fun _ h9 => h9) rfl dX9_bestSwap_64 ?_
                              refine lv_iload_n hx hb dX9_bestSwap_67 rfl (lv_at hl 6 rfl) ?_
                              obtain ⟨f142, hp143, hs141⟩ := a9_5 hI.1
                              refine va_iald hx hb hK hP 5 0 (zw_at (by omega) hs141) rfl (z_in rfl (by omega) (by omega)) dX9_bestSwap_68 ?_
                              refine lv_topi (fun y144 ey144 => ?_)
                              have hy144 := hp143 _ (z_clt (x := b) rfl (by omega) (by omega))
                              rw [← ey144] at hy144
                              have hy144 : 0 ≤ y144.toInt ∧ y144.toInt ≤ 8 := hy144
                              refine lv_icmp_ge (tgt := 159) hx hb dX9_bestSwap_69 (by decide) (fun c145 => ?_) (fun c145 => ?_)
                              · skip
                                have c145 : y144.toInt ≤ v8_61.toInt := (z_le rfl rfl).mp c145
                                obtain ⟨x146, ex146⟩ : ∃ y : Int32, y = v7_44 + 1 := ⟨_, rfl⟩
                                have tx146 : x146.toInt = v7_44.toInt + 1 := by rw [ex146]; exact z_add rfl (by decide : (1 : Int32).toInt = 1) (by omega) (by omega)
                                refine lv_iinc (v := x146) (lv' := [(7, .int x146), (8, .int v8_61), (6, .int v6_35), (5, .int v5_61), (4, .int v4_61), (0, .ref (ad 0)), (1, .int b), (2, .int k), (3, .int wh)]) hx hb dX9_bestSwap_159 hl (k := 1) rfl (by rw [ex146]; rfl) (by decide) rfl (fun ls hl => ?_)
                                refine lv_goto (tgt := 44) hx hb dX9_bestSwap_162 (by decide) ?_
                                exact ih44 x146 v5_61 v4_61 ct104 _ _ ls (by omega) (by first | assumption | omega | decide) hI hP hD hS (lv_sub hl [0, 2, 3, 4, 5, 6, 7, 8] rfl)
                              · skip
                                have c145 : ¬ (y144.toInt ≤ v8_61.toInt) := fun q => c145 ((z_le rfl rfl).mpr q)
                                refine lv_aload_n hx hb dX9_bestSwap_72 rfl (lv_at hl 5 rfl) ?_
                                refine lv_iload_n hx hb dX9_bestSwap_73 rfl (lv_at hl 6 rfl) ?_
                                refine lv_iload hx hb dX9_bestSwap_74 (lv_at hl 1 rfl) ?_
                                refine lv_iload hx hb dX9_bestSwap_76 (lv_at hl 0 rfl) ?_
                                refine lv_iload hx hb dX9_bestSwap_78 (lv_at hl 2 rfl) ?_
                                refine zc_i (va_runV (As := [.int b, .int v7_44, .int v8_61, .int v6_35]) (rest := []) ⟨hx, hb, hml, hown, hg⟩ (k_X9_canSwap l g ad me ct104 b v7_44 v8_61 v6_35 hI) (cwV 4 hg (z_gV mm_1182 mm_1184 mm_59 mm_117 mm_1185) rfl rfl rfl (by decide +kernel) ⟨Nat.le_of_ble_eq_true rfl, Nat.le_of_ble_eq_true rfl⟩) ⟨(zR.pre [.ref (ad 0), .int b, .int v7_44, .int v8_61, .int v6_35] hP hK hN).1, va_recv hK hP (ci := 9) (q0 := 0) rfl (zw_at (by omega) hs105), (zR.pre [.ref (ad 0), .int b, .int v7_44, .int v8_61, .int v6_35] hP hK hN).2⟩ rfl rfl hl.1 rfl (lv_room (Nat.le_of_ble_eq_true rfl)) dX9_bestSwap_80 ⟨Nat.le_of_ble_eq_true rfl, Nat.le_of_ble_eq_true rfl⟩) (fun r147 hr147 => ?_)
                                rcases hr147 with hr147 | hr147
                                · skip
                                  obtain ⟨rfl, h148, h149, h150, h151⟩ := hr147
                                  replace h148 : 0 ≤ b.toInt ∧ b.toInt ≤ 3 := h148
                                  replace h149 : 0 ≤ v7_44.toInt ∧ v7_44.toInt ≤ 7 := h149
                                  replace h150 : 0 ≤ v8_61.toInt ∧ v8_61.toInt ≤ 7 := h150
                                  replace h151 : 0 ≤ v6_35.toInt ∧ v6_35.toInt ≤ 3 := h151
                                  refine lv_if_ne (tgt := 89) hx hb dX9_bestSwap_83 (by decide) (fun c152 => ?_) (fun c152 => ?_)
                                  · skip
                                    refine lv_aload_n hx hb dX9_bestSwap_89 rfl (lv_at hl 5 rfl) ?_
                                    refine lv_iload_n hx hb dX9_bestSwap_90 rfl (lv_at hl 6 rfl) ?_
                                    refine lv_iload hx hb dX9_bestSwap_91 (lv_at hl 1 rfl) ?_
                                    refine lv_iload hx hb dX9_bestSwap_93 (lv_at hl 0 rfl) ?_
                                    refine lv_iload hx hb dX9_bestSwap_95 (lv_at hl 2 rfl) ?_
                                    have hFc := zw_free hD hS hA
                                    refine va_callv (va_runV (As := [.int b, .int v7_44, .int v8_61, .int v6_35]) (rest := []) ⟨hx, hb, hml, hown, hg⟩ (k_X9_swaps l g _ ad me ct104 b v7_44 v8_61 v6_35 (by first | omega | decide) (by first | omega | decide) (by first | omega | decide) (by first | omega | decide) hI) (cwV 4 hg (z_gV mm_1186 mm_1188 mm_60 mm_117 mm_1189) rfl rfl rfl (by decide +kernel) ⟨Nat.le_of_ble_eq_true rfl, Nat.le_of_ble_eq_true rfl⟩) ⟨(zA.pre [.ref (ad 0), .int b, .int v7_44, .int v8_61, .int v6_35] hP hK hD hN).1, va_recv hK hP (ci := 9) (q0 := 0) rfl (zw_at (by omega) hs105), (zA.pre [.ref (ad 0), .int b, .int v7_44, .int v8_61, .int v6_35] hP hK hD hN).2⟩ rfl rfl hl.1 rfl (lv_room (Nat.le_of_ble_eq_true rfl)) dX9_bestSwap_97 ⟨Nat.le_of_ble_eq_true rfl, Nat.le_of_ble_eq_true rfl⟩) hS (fun q _ h => hFc q h) hFc (fun _ t H1 locs ht hvm hr153 hB hz1 hk1 hS => ?_)
                                    obtain ⟨ct154, hP1, hD1, hI⟩ := hB
                                    rw [ht] at hP1
                                    have hD := hD1.weaken (fun _ _ _ h => hFc _ h)
                                    generalize H1 = H at hP1 hS ⊢
                                    have hP := hP1
                                    refine W.widen (k := 0) (n := 0) (Nat.le_refl _) (Nat.le_refl _) ?_
                                    refine lv_aload_n hx hb dX9_bestSwap_100 rfl (lv_at hl 5 rfl) ?_
                                    refine lv_iload_n hx hb dX9_bestSwap_101 rfl (lv_at hl 6 rfl) ?_
                                    refine lv_iload_n hx hb dX9_bestSwap_102 rfl (lv_at hl 7 rfl) ?_
                                    refine lv_iconst (v := 0) hx hb dX9_bestSwap_103 (by decide) ?_
                                    obtain ⟨bks156, lks157, gos158, shn159, tpd160, pl0161, ln0162, flt163, opn164, cmy165, wtg166, nm0167, mst168, sus169, cut170, h171, h172, h173, h174, h175, h176, h177, h178, h179, h180, h181, h182, h183, h184, h185, h186, h187, h188, h189, h190, hs155⟩ := a9_0 hI.1
                                    have hFc := zw_free hD hS hA
                                    refine va_calli (va_runV (As := [.int b, .int k, .int 0]) (rest := []) ⟨hx, hb, hml, hown, hg⟩ (k_X9_safeOf l g _ ad me ct154 b k (0 : Int32) (by first | omega | decide) (by first | omega | decide) hI) (cwV 3 hg (z_gV mm_1407 mm_1409 mm_96 mm_117 mm_1410) rfl rfl rfl (by decide +kernel) ⟨Nat.le_of_ble_eq_true rfl, Nat.le_of_ble_eq_true rfl⟩) ⟨(zA.pre [.ref (ad 0), .int b, .int k, .int 0] hP hK hD hN).1, va_recv hK hP (ci := 9) (q0 := 0) rfl (zw_at (by omega) hs155), (zA.pre [.ref (ad 0), .int b, .int k, .int 0] hP hK hD hN).2⟩ rfl rfl hl.1 rfl (lv_room (Nat.le_of_ble_eq_true rfl)) dX9_bestSwap_104 ⟨Nat.le_of_ble_eq_true rfl, Nat.le_of_ble_eq_true rfl⟩) hS (fun q _ h => hFc q h) hFc (fun r191 _ t H1 locs ht hvm hr191 hB hz1 hk1 hS => ?_)
                                    obtain ⟨ct192, hP1, hD1, hI, hk193, hk194⟩ := hB
                                    rw [ht] at hP1
                                    have hD := hD1.weaken (fun _ _ _ h => hFc _ h)
                                    generalize H1 = H at hP1 hS ⊢
                                    have hP := hP1
                                    refine W.widen (k := 0) (n := 0) (Nat.le_refl _) (Nat.le_refl _) ?_
                                    obtain ⟨hr191_0, hr191_1⟩ := hr191
                                    have hr191_0 : 0 ≤ r191.toInt := hr191_0
                                    have hr191_1 : r191.toInt ≤ 255 := hr191_1
                                    refine zc_i (va_runS (As := [.int r191]) (rest := []) ⟨hx, hb, hml, hown, hg⟩ (k_X9_bits l g ad me ct192 r191 hI) (va_cwS 1 hg (z_gS mm_1373 mm_1374 mm_117 mm_1375) rfl rfl rfl (by decide +kernel) ⟨Nat.le_of_ble_eq_true rfl, Nat.le_of_ble_eq_true rfl⟩) (zR.pre [.int r191] hP hK hN) rfl rfl hl.1 rfl (lv_room (Nat.le_of_ble_eq_true rfl)) dX9_bestSwap_107 ⟨Nat.le_of_ble_eq_true rfl, Nat.le_of_ble_eq_true rfl⟩) (fun r195 hr195 => ?_)
                                    obtain ⟨hr195_0, hr195_1⟩ := hr195
                                    have hr195_0 : 0 ≤ r195.toInt := hr195_0
                                    have hr195_1 : r195.toInt ≤ 16 := hr195_1
                                    refine lv_istore (lv' := [(9, .int r195), (8, .int v8_61), (7, .int v7_44), (6, .int v6_35), (5, .int v5_61), (4, .int v4_61), (0, .ref (ad 0)), (1, .int b), (2, .int k), (3, .int wh)]) hx hb dX9_bestSwap_110 hl (by decide) rfl (fun ls hl => ?_)
                                    refine lv_aload_n hx hb dX9_bestSwap_112 rfl (lv_at hl 6 rfl) ?_
                                    refine lv_iload_n hx hb dX9_bestSwap_113 rfl (lv_at hl 7 rfl) ?_
                                    refine lv_iload hx hb dX9_bestSwap_114 (lv_at hl 2 rfl) ?_
                                    refine lv_iload hx hb dX9_bestSwap_116 (lv_at hl 1 rfl) ?_
                                    refine lv_iload hx hb dX9_bestSwap_118 (lv_at hl 3 rfl) ?_
                                    obtain ⟨bks197, lks198, gos199, shn200, tpd201, pl0202, ln0203, flt204, opn205, cmy206, wtg207, nm0208, mst209, sus210, cut211, h212, h213, h214, h215, h216, h217, h218, h219, h220, h221, h222, h223, h224, h225, h226, h227, h228, h229, h230, h231, hs196⟩ := a9_0 hI.1
                                    have hFc := zw_free hD hS hA
                                    refine va_callv (va_runV (As := [.int b, .int v7_44, .int v8_61, .int v6_35]) (rest := []) ⟨hx, hb, hml, hown, hg⟩ (k_X9_swaps l g _ ad me ct192 b v7_44 v8_61 v6_35 (by first | omega | decide) (by first | omega | decide) (by first | omega | decide) (by first | omega | decide) hI) (cwV 4 hg (z_gV mm_1186 mm_1188 mm_60 mm_117 mm_1189) rfl rfl rfl (by decide +kernel) ⟨Nat.le_of_ble_eq_true rfl, Nat.le_of_ble_eq_true rfl⟩) ⟨(zA.pre [.ref (ad 0), .int b, .int v7_44, .int v8_61, .int v6_35] hP hK hD hN).1, va_recv hK hP (ci := 9) (q0 := 0) rfl (zw_at (by omega) hs196), (zA.pre [.ref (ad 0), .int b, .int v7_44, .int v8_61, .int v6_35] hP hK hD hN).2⟩ rfl rfl hl.1 rfl (lv_room (Nat.le_of_ble_eq_true rfl)) dX9_bestSwap_120 ⟨Nat.le_of_ble_eq_true rfl, Nat.le_of_ble_eq_true rfl⟩) hS (fun q _ h => hFc q h) hFc (fun _ t H1 locs ht hvm hr232 hB hz1 hk1 hS => ?_)
                                    obtain ⟨ct233, hP1, hD1, hI⟩ := hB
                                    rw [ht] at hP1
                                    have hD := hD1.weaken (fun _ _ _ h => hFc _ h)
                                    generalize H1 = H at hP1 hS ⊢
                                    have hP := hP1
                                    refine W.widen (k := 0) (n := 0) (Nat.le_refl _) (Nat.le_refl _) ?_
                                    refine lv_iload hx hb dX9_bestSwap_123 (lv_at hl 0 rfl) ?_
                                    refine lv_iload hx hb dX9_bestSwap_125 (lv_at hl 4 rfl) ?_
                                    refine lv_icmp_gt (tgt := 133) hx hb dX9_bestSwap_127 (by decide) (fun c234 => ?_) (fun c234 => ?_)
                                    · skip
                                      have c234 : v5_61.toInt < r195.toInt := (z_lt rfl rfl).mp c234
                                      refine lv_iload hx hb dX9_bestSwap_133 (lv_at hl 0 rfl) ?_
                                      refine lv_istore (lv' := [(5, .int r195), (9, .int r195), (8, .int v8_61), (7, .int v7_44), (6, .int v6_35), (4, .int v4_61), (0, .ref (ad 0)), (1, .int b), (2, .int k), (3, .int wh)]) hx hb dX9_bestSwap_135 hl (by decide) rfl (fun ls hl => ?_)
                                      refine lv_bipush (v := 64) hx hb dX9_bestSwap_137 (by decide) ?_
                                      refine lv_iload hx hb dX9_bestSwap_139 (lv_at hl 4 rfl) ?_
                                      refine lv_imul hx hb dX9_bestSwap_141 ?_
                                      refine lv_topi (fun x235 ex235 => ?_)
                                      have tx235 : x235.toInt = 64 * v6_35.toInt := by rw [ex235]; exact z_mul (by decide : (64 : Int32).toInt = 64) rfl (by omega) (by omega)
                                      refine lv_bipush (v := 8) hx hb dX9_bestSwap_142 (by decide) ?_
                                      refine lv_iload hx hb dX9_bestSwap_144 (lv_at hl 3 rfl) ?_
                                      refine lv_imul hx hb dX9_bestSwap_146 ?_
                                      refine lv_topi (fun x236 ex236 => ?_)
                                      have tx236 : x236.toInt = 8 * v7_44.toInt := by rw [ex236]; exact z_mul (by decide : (8 : Int32).toInt = 8) rfl (by omega) (by omega)
                                      refine lv_iadd hx hb dX9_bestSwap_147 ?_
                                      refine lv_topi (fun x237 ex237 => ?_)
                                      have tx237 : x237.toInt = x235.toInt + x236.toInt := by rw [ex237]; exact z_add rfl rfl (by omega) (by omega)
                                      refine lv_iload hx hb dX9_bestSwap_148 (lv_at hl 2 rfl) ?_
                                      refine lv_iadd hx hb dX9_bestSwap_150 ?_
                                      refine lv_topi (fun x238 ex238 => ?_)
                                      have tx238 : x238.toInt = x237.toInt + v8_61.toInt := by rw [ex238]; exact z_add rfl rfl (by omega) (by omega)
                                      refine lv_istore (lv' := [(4, .int x238), (5, .int r195), (9, .int r195), (8, .int v8_61), (7, .int v7_44), (6, .int v6_35), (0, .ref (ad 0)), (1, .int b), (2, .int k), (3, .int wh)]) hx hb dX9_bestSwap_151 hl (by decide) rfl (fun ls hl => ?_)
                                      obtain ⟨x239, ex239⟩ : ∃ y : Int32, y = v8_61 + 1 := ⟨_, rfl⟩
                                      have tx239 : x239.toInt = v8_61.toInt + 1 := by rw [ex239]; exact z_add rfl (by decide : (1 : Int32).toInt = 1) (by omega) (by omega)
                                      refine lv_iinc (v := x239) (lv' := [(8, .int x239), (4, .int x238), (5, .int r195), (9, .int r195), (7, .int v7_44), (6, .int v6_35), (0, .ref (ad 0)), (1, .int b), (2, .int k), (3, .int wh)]) hx hb dX9_bestSwap_153 hl (k := 3) rfl (by rw [ex239]; rfl) (by decide) rfl (fun ls hl => ?_)
                                      refine lv_goto (tgt := 61) hx hb dX9_bestSwap_156 (by decide) ?_
                                      exact ih61 x239 r195 x238 ct233 _ _ ls (by omega) (by first | assumption | omega | decide) hI hP hD hS (lv_sub hl [0, 4, 5, 2, 1, 6, 7, 8, 9] rfl)
                                    · skip
                                      have c234 : ¬ (v5_61.toInt < r195.toInt) := fun q => c234 ((z_lt rfl rfl).mpr q)
                                      refine lv_goto (tgt := 153) hx hb dX9_bestSwap_130 (by decide) ?_
                                      obtain ⟨x240, ex240⟩ : ∃ y : Int32, y = v8_61 + 1 := ⟨_, rfl⟩
                                      have tx240 : x240.toInt = v8_61.toInt + 1 := by rw [ex240]; exact z_add rfl (by decide : (1 : Int32).toInt = 1) (by omega) (by omega)
                                      refine lv_iinc (v := x240) (lv' := [(8, .int x240), (9, .int r195), (7, .int v7_44), (6, .int v6_35), (5, .int v5_61), (4, .int v4_61), (0, .ref (ad 0)), (1, .int b), (2, .int k), (3, .int wh)]) hx hb dX9_bestSwap_153 hl (k := 1) rfl (by rw [ex240]; rfl) (by decide) rfl (fun ls hl => ?_)
                                      refine lv_goto (tgt := 61) hx hb dX9_bestSwap_156 (by decide) ?_
                                      exact ih61 x240 v5_61 v4_61 ct233 _ _ ls (by omega) (by first | assumption | omega | decide) hI hP hD hS (lv_sub hl [0, 2, 3, 4, 5, 6, 7, 8, 9] rfl)
                                  · skip
                                    exact absurd c152 (by decide)
                                · skip
                                  obtain rfl := hr147
                                  refine lv_if_ne (tgt := 89) hx hb dX9_bestSwap_83 (by decide) (fun c241 => ?_) (fun c241 => ?_)
                                  · skip
                                    exact absurd c241 (by decide)
                                  · skip
                                    refine lv_goto (tgt := 153) hx hb dX9_bestSwap_86 (by decide) ?_
                                    obtain ⟨x242, ex242⟩ : ∃ y : Int32, y = v8_61 + 1 := ⟨_, rfl⟩
                                    have tx242 : x242.toInt = v8_61.toInt + 1 := by rw [ex242]; exact z_add rfl (by decide : (1 : Int32).toInt = 1) (by omega) (by omega)
                                    refine lv_iinc (v := x242) (lv' := [(8, .int x242), (7, .int v7_44), (6, .int v6_35), (5, .int v5_61), (4, .int v4_61), (0, .ref (ad 0)), (1, .int b), (2, .int k), (3, .int wh)]) hx hb dX9_bestSwap_153 hl (k := 0) rfl (by rw [ex242]; rfl) (by decide) rfl (fun ls hl => ?_)
                                    refine lv_goto (tgt := 61) hx hb dX9_bestSwap_156 (by decide) ?_
                                    exact ih61 x242 v5_61 v4_61 ct104 _ _ ls (by omega) (by first | assumption | omega | decide) hI hP hD hS (lv_sub hl [0, 1, 2, 3, 4, 5, 6, 7, 8] rfl)
                          exact loop61 ((8 - x103.toInt : Int).toNat + 1) x103 v5_44 v4_44 ct60 _ _ ls (by omega) (by first | assumption | omega | decide) hI hP hD hS (lv_sub hl [0, 1, 2, 3, 4, 5, 6, 7, 8] rfl)
                    exact loop44 ((8 - (0 : Int32).toInt : Int).toNat + 1) (0 : Int32) v5_35 v4_35 ct49 _ _ ls (by omega) (by first | assumption | omega | decide) hI hP hD hS (lv_sub hl [0, 1, 2, 3, 4, 5, 6, 7] rfl)
              exact loop35 ((4 - (0 : Int32).toInt : Int).toNat + 1) (0 : Int32) (-1 : Int32) (-1 : Int32) ct _ _ ls (by omega) (by first | assumption | omega | decide) hI hP hD hS (lv_sub hl [0, 1, 2, 3, 4, 5, 6] rfl)
            · skip
              exact absurd c48 (by decide)
          · skip
            obtain ⟨rfl, h243⟩ := hr45
            replace h243 : ¬ ((0 : Int) ≤ wh.toInt ∧ wh.toInt ≤ (3 : Int)) := h243
            refine lv_if_ne (tgt := 26) hx hb dX9_bestSwap_21 (by decide) (fun c244 => ?_) (fun c244 => ?_)
            · skip
              exact absurd c244 (by decide)
            · skip
              refine lv_iconst (v := (-1)) hx hb dX9_bestSwap_24 (by decide) ?_
              have q245 : ((-1) : Int32).toInt = -1 := by decide
              exact W.iret (v := (-1)) hx hb hr (fun t ht hW => ⟨⟨(-1), (), rfl, trivial, ct, by rw [ht]; exact hP, hD, hI⟩, hS.F ht⟩) hS.2.2 dX9_bestSwap_25
      · skip
        obtain ⟨rfl, h246⟩ := hr41
        replace h246 : ¬ (1 ≤ k.toInt ∧ k.toInt ≤ 16) := h246
        refine lv_if_eq (tgt := 24) hx hb dX9_bestSwap_12 (by decide) (fun c247 => ?_) (fun c247 => ?_)
        · skip
          refine lv_iconst (v := (-1)) hx hb dX9_bestSwap_24 (by decide) ?_
          have q248 : ((-1) : Int32).toInt = -1 := by decide
          exact W.iret (v := (-1)) hx hb hr (fun t ht hW => ⟨⟨(-1), (), rfl, trivial, ct, by rw [ht]; exact hP, hD, hI⟩, hS.F ht⟩) hS.2.2 dX9_bestSwap_25
        · skip
          exact absurd c247 (by decide)
  · skip
    obtain rfl := hr37
    refine lv_if_eq (tgt := 24) hx hb dX9_bestSwap_5 (by decide) (fun c249 => ?_) (fun c249 => ?_)
    · skip
      refine lv_iconst (v := (-1)) hx hb dX9_bestSwap_24 (by decide) ?_
      have q250 : ((-1) : Int32).toInt = -1 := by decide
      exact W.iret (v := (-1)) hx hb hr (fun t ht hW => ⟨⟨(-1), (), rfl, trivial, ct, by rw [ht]; exact hP, hD, hI⟩, hS.F ht⟩) hS.2.2 dX9_bestSwap_25
    · skip
      exact absurd c249 (by decide)

set_option maxHeartbeats 4000000 in
set_option maxRecDepth 100000 in
theorem k_X9_allLines (l : Launch) (g : zG) (ad : Nat → Nat) (me : Int32) (ct : Nat → va_E) (b : Int32) (hl_b : 0 ≤ b.toInt ∧ b.toInt ≤ 3) (hI : IR g ad me ct) : Met l yX9_allLines (zW yX9_allLines cX9_allLines 4 (some .int)) ({ frames := 1, cells := 0, slots := 0, locals := 21 }) (va_Pc [.ref (ad 0), .int b] (zR g (zw 32 ad ct))) (vp_Si (fun r : Int32 => ((0 ≤ r.toInt) ∧ (r.toInt ≤ 255)))) 0 0 (fun _ => False) := by
  refine Met.ofW (cc := cX9_allLines) (maxL := 4) (ret := (some .int)) (by decide) rfl ?_
  intro p e s m args below meth c s₁ B hml hv
  obtain ⟨rfl, hP, hK, hN⟩ := hv
  have hx := B.exec
  have hb := B.bytes
  have hr := B.returns
  have hg := zW.law (atoms_spec (ws := (zW yX9_allLines cX9_allLines 4 (some .int))) B.pre)
  have hown : s.vm.findClass RX9 = some m.cls := findClass_of_methodNamed B.named
  have hlocks := B.notSynchronized
  have hpe0 := hI.1.1
  have hl := lv_entry ([.ref (ad 0), .int b]) (n := 4) (Nat.le_of_ble_eq_true rfl)
  rw [lg_entry_eq]
  generalize (lg_sl ([.ref (ad 0), .int b]) ++ List.replicate (4 - (lg_sl ([.ref (ad 0), .int b])).length) Slot.unset).toArray = ls at hl ⊢
  have hl : lv_has ls 4 [(0, .ref (ad 0)), (1, .int b)] := hl
  refine lv_iconst (v := 0) hx hb dX9_allLines_0 (by decide) ?_
  refine lv_istore_n (lv' := [(2, .int 0), (0, .ref (ad 0)), (1, .int b)]) hx hb dX9_allLines_1 rfl hl (by decide) rfl (fun ls hl => ?_)
  refine lv_iconst (v := 0) hx hb dX9_allLines_2 (by decide) ?_
  refine lv_istore_n (lv' := [(3, .int 0), (2, .int 0), (0, .ref (ad 0)), (1, .int b)]) hx hb dX9_allLines_3 rfl hl (by decide) rfl (fun ls hl => ?_)
  have loop4 : ∀ (n4 : Nat) (v3_4 : Int32) (v2_4 : Int32) (ls : Array Slot), ((8 - v3_4.toInt : Int).toNat < n4) → (0 ≤ v3_4.toInt ∧ v3_4.toInt ≤ 8) → (0 ≤ v2_4.toInt ∧ v2_4.toInt ≤ 255) → lv_has ls 4 [(3, .int v3_4), (2, .int v2_4), (0, .ref (ad 0)), (1, .int b)] → W p l e (headSpec (zW yX9_allLines cX9_allLines 4 (some .int)) ({ frames := 1, cells := 0, slots := 0, locals := 21 })).room s m ([.ref (ad 0), .int b] : List Value).toArray below meth c s.heap [] 0 0 (MQ below (vp_Si (fun r : Int32 => ((0 ≤ r.toInt) ∧ (r.toInt ≤ 255)))) ([.ref (ad 0), .int b] : List Value).toArray s 0 0 (fun _ => False)) (F0 m 4 ls []) := by
    intro n4
    induction n4 with
    | zero =>
      intro v3_4 v2_4 ls hn4 b3_4 b2_4 hl
      exact absurd hn4 (Nat.not_lt_zero _)
    | succ n4 ih4 =>
      intro v3_4 v2_4 ls hn4 b3_4 b2_4 hl
      refine lv_iload_n hx hb dX9_allLines_4 rfl (lv_at hl 0 rfl) ?_
      refine lv_aload_n hx hb dX9_allLines_5 rfl (lv_at hl 2 rfl) ?_
      obtain ⟨bks2, lks3, gos4, shn5, tpd6, pl07, ln08, flt9, opn10, cmy11, wtg12, nm013, mst14, sus15, cut16, h17, h18, h19, h20, h21, h22, h23, h24, h25, h26, h27, h28, h29, h30, h31, h32, h33, h34, h35, h36, hs1⟩ := a9_0 hI.1
      refine va_get (D := g.1) (ci := 9) (v := .ref (ad 5)) (C := RX9) (T := TX9) (N := 47) hx hb hg inG9 hown hK hP 0 (zw_at (by omega) hs1) rfl 9 (by decide) (hg _ mm_967) (fun _ h9 => h9) rfl dX9_allLines_6 ?_
      refine lv_iload_n hx hb dX9_allLines_9 rfl (lv_at hl 3 rfl) ?_
      obtain ⟨f38, hp39, hs37⟩ := a9_5 hI.1
      refine va_iald hx hb hK hP 5 0 (zw_at (by omega) hs37) rfl (z_in rfl (by omega) (by omega)) dX9_allLines_10 ?_
      refine lv_topi (fun y40 ey40 => ?_)
      have hy40 := hp39 _ (z_clt (x := b) rfl (by omega) (by omega))
      rw [← ey40] at hy40
      have hy40 : 0 ≤ y40.toInt ∧ y40.toInt ≤ 8 := hy40
      refine lv_icmp_ge (tgt := 43) hx hb dX9_allLines_11 (by decide) (fun c41 => ?_) (fun c41 => ?_)
      · skip
        have c41 : y40.toInt ≤ v3_4.toInt := (z_le rfl rfl).mp c41
        refine lv_iload_n hx hb dX9_allLines_43 rfl (lv_at hl 1 rfl) ?_
        exact W.iret (v := v2_4) hx hb hr (fun t ht hW => ⟨v2_4, rfl, ⟨by first | omega | decide, by first | omega | decide⟩, ht⟩) (fun q hq => by cases hq) dX9_allLines_44
      · skip
        have c41 : ¬ (y40.toInt ≤ v3_4.toInt) := fun q => c41 ((z_le rfl rfl).mpr q)
        refine lv_aload_n hx hb dX9_allLines_14 rfl (lv_at hl 2 rfl) ?_
        refine va_get (D := g.1) (ci := 9) (v := .ref (ad 10)) (C := RX9) (T := TX9) (N := 47) hx hb hg inG9 hown hK hP 0 (zw_at (by omega) hs1) rfl 14 (by decide) (hg _ mm_972) (fun _ h9 => h9) rfl dX9_allLines_15 ?_
        refine lv_iload_n hx hb dX9_allLines_18 rfl (lv_at hl 3 rfl) ?_
        refine lv_iload_n hx hb dX9_allLines_19 rfl (lv_at hl 0 rfl) ?_
        refine zc_i (va_runS (As := [.int b, .int v3_4]) (rest := [.ref (ad 10)]) ⟨hx, hb, hml, hown, hg⟩ (k_X9_at l g ad me ct b v3_4 (by first | omega | decide) (by first | omega | decide) hI) (va_cwS 2 hg (z_gS mm_1159 mm_1160 mm_117 mm_1161) rfl rfl rfl (by decide +kernel) ⟨Nat.le_of_ble_eq_true rfl, Nat.le_of_ble_eq_true rfl⟩) (zR.pre [.int b, .int v3_4] hP hK hN) rfl rfl hl.1 rfl (lv_room (Nat.le_of_ble_eq_true rfl)) dX9_allLines_20 ⟨Nat.le_of_ble_eq_true rfl, Nat.le_of_ble_eq_true rfl⟩) (fun r42 hr42 => ?_)
        have hr42_0 := hr42
        have hr42_0 : r42.toInt = 8 * b.toInt + v3_4.toInt := hr42_0
        obtain ⟨f44, hp45, hs43⟩ := a9_10 hI.1
        refine va_zald hx hb hK hP 10 3 (zw_at (by omega) hs43) rfl (z_in rfl (by omega) (by omega)) dX9_allLines_23 ?_
        refine lv_topi (fun y46 ey46 => ?_)
        have hy46 := hp45 _ (z_clt (x := r42) rfl (by omega) (by omega))
        rw [← ey46] at hy46
        have hy46 : y46 = 0 ∨ y46 = 1 := hy46
        have by46 := z_b01 hy46
        refine lv_if_eq (tgt := 31) hx hb dX9_allLines_24 (by decide) (fun c47 => ?_) (fun c47 => ?_)
        · skip
          have c47 : y46.toInt = 0 := (z_eq rfl (by decide : (0 : Int32).toInt = 0)).mp c47
          refine lv_iload_n hx hb dX9_allLines_31 rfl (lv_at hl 1 rfl) ?_
          refine lv_iconst (v := 1) hx hb dX9_allLines_32 (by decide) ?_
          refine lv_iload_n hx hb dX9_allLines_33 rfl (lv_at hl 0 rfl) ?_
          refine lv_ishl hx hb dX9_allLines_34 ?_
          refine lv_topi (fun x48 ex48 => ?_)
          have tx48 := z_shl1 (y := v3_4) rfl (by omega) (k := 7) (by decide) (by omega)
          rw [← ex48] at tx48
          refine lv_ior hx hb dX9_allLines_35 ?_
          refine lv_topi (fun x49 ex49 => ?_)
          have tx49 := z_or (x := v2_4) (y := x48) rfl rfl (k := 8) (N := 256) (by decide) (by decide) (by omega) (by omega) (by omega) (by omega)
          rw [← ex49] at tx49
          refine lv_istore_n (lv' := [(2, .int x49), (3, .int v3_4), (0, .ref (ad 0)), (1, .int b)]) hx hb dX9_allLines_36 rfl hl (by decide) rfl (fun ls hl => ?_)
          obtain ⟨x50, ex50⟩ : ∃ y : Int32, y = v3_4 + 1 := ⟨_, rfl⟩
          have tx50 : x50.toInt = v3_4.toInt + 1 := by rw [ex50]; exact z_add rfl (by decide : (1 : Int32).toInt = 1) (by omega) (by omega)
          refine lv_iinc (v := x50) (lv' := [(3, .int x50), (2, .int x49), (0, .ref (ad 0)), (1, .int b)]) hx hb dX9_allLines_37 hl (k := 1) rfl (by rw [ex50]; rfl) (by decide) rfl (fun ls hl => ?_)
          refine lv_goto (tgt := 4) hx hb dX9_allLines_40 (by decide) ?_
          exact ih4 x50 x49 ls (by omega) (by first | assumption | omega | decide) (by first | assumption | omega | decide) (lv_sub hl [0, 1, 2, 3] rfl)
        · skip
          have c47 : ¬ (y46.toInt = 0) := fun q => c47 ((z_eq rfl (by decide : (0 : Int32).toInt = 0)).mpr q)
          refine lv_iload_n hx hb dX9_allLines_27 rfl (lv_at hl 1 rfl) ?_
          refine lv_goto (tgt := 36) hx hb dX9_allLines_28 (by decide) ?_
          refine lv_istore_n (lv' := [(2, .int v2_4), (3, .int v3_4), (0, .ref (ad 0)), (1, .int b)]) hx hb dX9_allLines_36 rfl hl (by decide) rfl (fun ls hl => ?_)
          obtain ⟨x51, ex51⟩ : ∃ y : Int32, y = v3_4 + 1 := ⟨_, rfl⟩
          have tx51 : x51.toInt = v3_4.toInt + 1 := by rw [ex51]; exact z_add rfl (by decide : (1 : Int32).toInt = 1) (by omega) (by omega)
          refine lv_iinc (v := x51) (lv' := [(3, .int x51), (2, .int v2_4), (0, .ref (ad 0)), (1, .int b)]) hx hb dX9_allLines_37 hl (k := 1) rfl (by rw [ex51]; rfl) (by decide) rfl (fun ls hl => ?_)
          refine lv_goto (tgt := 4) hx hb dX9_allLines_40 (by decide) ?_
          exact ih4 x51 v2_4 ls (by omega) (by first | assumption | omega | decide) (by first | assumption | omega | decide) (lv_sub hl [0, 1, 2, 3] rfl)
  exact loop4 ((8 - (0 : Int32).toInt : Int).toNat + 1) (0 : Int32) (0 : Int32) ls (by omega) (by first | assumption | omega | decide) (by first | assumption | omega | decide) (lv_sub hl [0, 1, 2, 3] rfl)
