set_option maxHeartbeats 4000000 in
set_option maxRecDepth 100000 in
theorem k_X9_canAll (l : Launch) (g : zG) (sz : Nat) (ad : Nat → Nat) (me : Int32) (ct : Nat → va_E) (b : Int32) (to : Int32) (pn : Int32) (hl_b : 0 ≤ b.toInt ∧ b.toInt ≤ 3) (hl_to : -1 ≤ to.toInt ∧ to.toInt ≤ 7) (hl_pn : 0 ≤ pn.toInt ∧ pn.toInt ≤ 15) (hI : IR g ad me ct) : Met l yX9_canAll (zW yX9_canAll cX9_canAll 5 (some .boolean)) ({ frames := 2, cells := 0, slots := 0, locals := 52 }) (va_Pc [.ref (ad 0), .int b, .int to, .int pn] (zA g (zw 32 ad ct) sz)) (va_Qi (fun (r : Int32) (u : Int32) => (r = 1 ∧ (u = 1)) ∨ (r = 0 ∧ (u = 0))) (fun (u : Int32) t => ∃ ct2 : Nat → va_E, zP g (zw 32 ad ct2) t.heap ∧ va_D (va_A (zw 32 ad ct) sz) (zw 32 ad ct2) ∧ IR g ad me ct2 ∧ (u = 1 → ∃ m, MTx (zar (ct 20)) (zar (ct 10)) (zar (ct 5) b.toInt.toNat).toInt b.toInt me.toInt to pn m) ∧ (u = 0 → ∀ m, ¬ MTx (zar (ct 20)) (zar (ct 10)) (zar (ct 5) b.toInt.toNat).toInt b.toInt me.toInt to pn m) ∧ (ct2 0 = ct 0) ∧ (ct2 5 = ct 5) ∧ (ct2 10 = ct 10) ∧ (ct2 20 = ct 20)) (va_A (zw 32 ad ct) sz)) 0 0 (va_A (zw 32 ad ct) sz) := by
  refine Met.ofW (cc := cX9_canAll) (maxL := 5) (ret := (some .boolean)) (by decide) rfl ?_
  intro p e s m args below meth c s₁ B hml hv
  obtain ⟨rfl, hsz, hP, hK, hD0, hN⟩ := hv
  have hx := B.exec
  have hb := B.bytes
  have hr := B.returns
  have hg := zW.law (atoms_spec (ws := (zW yX9_canAll cX9_canAll 5 (some .boolean))) B.pre)
  have hown : s.vm.findClass RX9 = some m.cls := findClass_of_methodNamed B.named
  have hlocks := B.notSynchronized
  have hpe0 := hI.1.1
  subst hsz
  have hD := hD0.self (sz := s.heap.size)
  generalize hAe : va_A (zw 32 ad ct) s.heap.size = A at hD ⊢
  have hA : ∀ q : Nat, s.heap.size ≤ q → A q := fun q h => by rw [← hAe]; exact Or.inr h
  have hS : va_S A s.heap s.heap [] := va_S.rf
  have hl := lv_entry ([.ref (ad 0), .int b, .int to, .int pn]) (n := 5) (Nat.le_of_ble_eq_true rfl)
  rw [lg_entry_eq]
  generalize (lg_sl ([.ref (ad 0), .int b, .int to, .int pn]) ++ List.replicate (5 - (lg_sl ([.ref (ad 0), .int b, .int to, .int pn])).length) Slot.unset).toArray = ls at hl ⊢
  have hl : lv_has ls 5 [(0, .ref (ad 0)), (1, .int b), (2, .int to), (3, .int pn)] := hl
  have hc0 : ct 0 = ct 0 := rfl
  have hc5 : ct 5 = ct 5 := rfl
  have hc10 : ct 10 = ct 10 := rfl
  have hc20 : ct 20 = ct 20 := rfl
  have q0 : ((0 : Int32)).toInt = 0 := by decide
  have q1 : ((1 : Int32)).toInt = 1 := by decide
  refine lv_iload_n hx hb dX9_canAll_0 rfl (lv_at hl 2 rfl) ?_
  refine lv_iconst (v := (-1)) hx hb dX9_canAll_1 (by decide) ?_
  refine lv_icmp_eq (tgt := 20) hx hb dX9_canAll_2 (by decide) (fun c1 => ?_) (fun c1 => ?_)
  · skip
    have c1 : to.toInt = (-1) := (z_eq rfl (by decide : ((-1) : Int32).toInt = (-1))).mp c1
    have htd : to.toInt = -1 ∨ zb (zar (ct 20) to.toInt.toNat) pn.toInt.toNat := Or.inl (by omega)
    refine lv_iconst (v := 0) hx hb dX9_canAll_20 (by decide) ?_
    refine lv_istore (lv' := [(4, .int 0), (0, .ref (ad 0)), (1, .int b), (2, .int to), (3, .int pn)]) hx hb dX9_canAll_21 hl (by decide) rfl (fun ls hl => ?_)
    obtain ⟨bks3, lks4, gos5, shn6, tpd7, pl08, ln09, flt10, opn11, cmy12, wtg13, nm014, mst15, sus16, cut17, h18, h19, h20, h21, h22, h23, h24, h25, h26, h27, h28, h29, h30, h31, h32, h33, h34, h35, h36, h37, hs2⟩ := a9_0 hI.1
    have loop23 : ∀ (n23 : Nat) (v4_23 : Int32) (ct38 : Nat → va_E) (H : Heap) (locs : List Loc) (ls : Array Slot), ((16 - v4_23.toInt : Int).toNat < n23) → (0 ≤ v4_23.toInt ∧ v4_23.toInt ≤ 16) → (∀ j : Nat, (j : Int) < v4_23.toInt → (zar (ct38 24) j).toInt = -1) → (ct38 0 = ct 0) → (ct38 5 = ct 5) → (ct38 10 = ct 10) → (ct38 20 = ct 20) → (IR g ad me ct38) → zP g (zw 32 ad ct38) H → va_D A (zw 32 ad ct38) → va_S A s.heap H locs → lv_has ls 5 [(4, .int v4_23), (0, .ref (ad 0)), (1, .int b), (2, .int to), (3, .int pn)] → W p l e (headSpec (zW yX9_canAll cX9_canAll 5 (some .boolean)) ({ frames := 2, cells := 0, slots := 0, locals := 52 })).room s m ([.ref (ad 0), .int b, .int to, .int pn] : List Value).toArray below meth c H locs 0 0 (MQ below (va_Qi (fun (r : Int32) (u : Int32) => (r = 1 ∧ (u = 1)) ∨ (r = 0 ∧ (u = 0))) (fun (u : Int32) t => ∃ ct2 : Nat → va_E, zP g (zw 32 ad ct2) t.heap ∧ va_D A (zw 32 ad ct2) ∧ IR g ad me ct2 ∧ (u = 1 → ∃ m, MTx (zar (ct 20)) (zar (ct 10)) (zar (ct 5) b.toInt.toNat).toInt b.toInt me.toInt to pn m) ∧ (u = 0 → ∀ m, ¬ MTx (zar (ct 20)) (zar (ct 10)) (zar (ct 5) b.toInt.toNat).toInt b.toInt me.toInt to pn m) ∧ (ct2 0 = ct 0) ∧ (ct2 5 = ct 5) ∧ (ct2 10 = ct 10) ∧ (ct2 20 = ct 20)) A) ([.ref (ad 0), .int b, .int to, .int pn] : List Value).toArray s 0 0 A) (F0 m 23 ls []) := by
      intro n23
      induction n23 with
      | zero =>
        intro v4_23 ct38 H locs ls hn23 b4_23 j0_23 hc0 hc5 hc10 hc20 hI hP hD hS hl
        exact absurd hn23 (Nat.not_lt_zero _)
      | succ n23 ih23 =>
        intro v4_23 ct38 H locs ls hn23 b4_23 j0_23 hc0 hc5 hc10 hc20 hI hP hD hS hl
        refine lv_iload hx hb dX9_canAll_23 (lv_at hl 0 rfl) ?_
        refine lv_bipush (v := 16) hx hb dX9_canAll_25 (by decide) ?_
        refine lv_icmp_ge (tgt := 44) hx hb dX9_canAll_27 (by decide) (fun c39 => ?_) (fun c39 => ?_)
        · skip
          have c39 : 16 ≤ v4_23.toInt := (z_le (by decide : (16 : Int32).toInt = 16) rfl).mp c39
          refine lv_iconst (v := 0) hx hb dX9_canAll_44 (by decide) ?_
          refine lv_istore (lv' := [(4, .int 0), (0, .ref (ad 0)), (1, .int b), (2, .int to), (3, .int pn)]) hx hb dX9_canAll_45 hl (by decide) rfl (fun ls hl => ?_)
          obtain ⟨bks41, lks42, gos43, shn44, tpd45, pl046, ln047, flt48, opn49, cmy50, wtg51, nm052, mst53, sus54, cut55, h56, h57, h58, h59, h60, h61, h62, h63, h64, h65, h66, h67, h68, h69, h70, h71, h72, h73, h74, h75, hs40⟩ := a9_0 hI.1
          have loop47 : ∀ (n47 : Nat) (v4_47 : Int32) (ct76 : Nat → va_E) (H : Heap) (locs : List Loc) (ls : Array Slot), ((8 - v4_47.toInt : Int).toNat < n47) → (0 ≤ v4_47.toInt ∧ v4_47.toInt ≤ 8) → (∀ j : Nat, (j : Int) < v4_47.toInt → (zar (ct76 23) j).toInt = -1) → (∀ j : Nat, (j : Int) < 16 → (zar (ct76 24) j).toInt = -1) → (ct76 0 = ct 0) → (ct76 5 = ct 5) → (ct76 10 = ct 10) → (ct76 20 = ct 20) → (IR g ad me ct76) → zP g (zw 32 ad ct76) H → va_D A (zw 32 ad ct76) → va_S A s.heap H locs → lv_has ls 5 [(4, .int v4_47), (0, .ref (ad 0)), (1, .int b), (2, .int to), (3, .int pn)] → W p l e (headSpec (zW yX9_canAll cX9_canAll 5 (some .boolean)) ({ frames := 2, cells := 0, slots := 0, locals := 52 })).room s m ([.ref (ad 0), .int b, .int to, .int pn] : List Value).toArray below meth c H locs 0 0 (MQ below (va_Qi (fun (r : Int32) (u : Int32) => (r = 1 ∧ (u = 1)) ∨ (r = 0 ∧ (u = 0))) (fun (u : Int32) t => ∃ ct2 : Nat → va_E, zP g (zw 32 ad ct2) t.heap ∧ va_D A (zw 32 ad ct2) ∧ IR g ad me ct2 ∧ (u = 1 → ∃ m, MTx (zar (ct 20)) (zar (ct 10)) (zar (ct 5) b.toInt.toNat).toInt b.toInt me.toInt to pn m) ∧ (u = 0 → ∀ m, ¬ MTx (zar (ct 20)) (zar (ct 10)) (zar (ct 5) b.toInt.toNat).toInt b.toInt me.toInt to pn m) ∧ (ct2 0 = ct 0) ∧ (ct2 5 = ct 5) ∧ (ct2 10 = ct 10) ∧ (ct2 20 = ct 20)) A) ([.ref (ad 0), .int b, .int to, .int pn] : List Value).toArray s 0 0 A) (F0 m 47 ls []) := by
            intro n47
            induction n47 with
            | zero =>
              intro v4_47 ct76 H locs ls hn47 b4_47 j0_47 j1_47 hc0 hc5 hc10 hc20 hI hP hD hS hl
              exact absurd hn47 (Nat.not_lt_zero _)
            | succ n47 ih47 =>
              intro v4_47 ct76 H locs ls hn47 b4_47 j0_47 j1_47 hc0 hc5 hc10 hc20 hI hP hD hS hl
              refine lv_iload hx hb dX9_canAll_47 (lv_at hl 0 rfl) ?_
              refine lv_bipush (v := 8) hx hb dX9_canAll_49 (by decide) ?_
              refine lv_icmp_ge (tgt := 68) hx hb dX9_canAll_51 (by decide) (fun c77 => ?_) (fun c77 => ?_)
              · skip
                have c77 : 8 ≤ v4_47.toInt := (z_le (by decide : (8 : Int32).toInt = 8) rfl).mp c77
                refine lv_iconst (v := 0) hx hb dX9_canAll_68 (by decide) ?_
                refine lv_istore (lv' := [(4, .int 0), (0, .ref (ad 0)), (1, .int b), (2, .int to), (3, .int pn)]) hx hb dX9_canAll_69 hl (by decide) rfl (fun ls hl => ?_)
                obtain ⟨bks79, lks80, gos81, shn82, tpd83, pl084, ln085, flt86, opn87, cmy88, wtg89, nm090, mst91, sus92, cut93, h94, h95, h96, h97, h98, h99, h100, h101, h102, h103, h104, h105, h106, h107, h108, h109, h110, h111, h112, h113, hs78⟩ := a9_0 hI.1
                have loop71 : ∀ (n71 : Nat) (v4_71 : Int32) (ct114 : Nat → va_E) (H : Heap) (locs : List Loc) (ls : Array Slot), ((8 - v4_71.toInt : Int).toNat < n71) → (0 ≤ v4_71.toInt ∧ v4_71.toInt ≤ 8) → (CA (zar (ct 20)) (zar (ct114 23)) (zar (ct114 24)) (zar (ct 10)) me.toInt b.toInt to pn v4_71.toInt) → (ct114 0 = ct 0) → (ct114 5 = ct 5) → (ct114 10 = ct 10) → (ct114 20 = ct 20) → (IR g ad me ct114) → zP g (zw 32 ad ct114) H → va_D A (zw 32 ad ct114) → va_S A s.heap H locs → lv_has ls 5 [(4, .int v4_71), (0, .ref (ad 0)), (1, .int b), (2, .int to), (3, .int pn)] → W p l e (headSpec (zW yX9_canAll cX9_canAll 5 (some .boolean)) ({ frames := 2, cells := 0, slots := 0, locals := 52 })).room s m ([.ref (ad 0), .int b, .int to, .int pn] : List Value).toArray below meth c H locs 0 0 (MQ below (va_Qi (fun (r : Int32) (u : Int32) => (r = 1 ∧ (u = 1)) ∨ (r = 0 ∧ (u = 0))) (fun (u : Int32) t => ∃ ct2 : Nat → va_E, zP g (zw 32 ad ct2) t.heap ∧ va_D A (zw 32 ad ct2) ∧ IR g ad me ct2 ∧ (u = 1 → ∃ m, MTx (zar (ct 20)) (zar (ct 10)) (zar (ct 5) b.toInt.toNat).toInt b.toInt me.toInt to pn m) ∧ (u = 0 → ∀ m, ¬ MTx (zar (ct 20)) (zar (ct 10)) (zar (ct 5) b.toInt.toNat).toInt b.toInt me.toInt to pn m) ∧ (ct2 0 = ct 0) ∧ (ct2 5 = ct 5) ∧ (ct2 10 = ct 10) ∧ (ct2 20 = ct 20)) A) ([.ref (ad 0), .int b, .int to, .int pn] : List Value).toArray s 0 0 A) (F0 m 71 ls []) := by
                  intro n71
                  induction n71 with
                  | zero =>
                    intro v4_71 ct114 H locs ls hn71 b4_71 j0_71 hc0 hc5 hc10 hc20 hI hP hD hS hl
                    exact absurd hn71 (Nat.not_lt_zero _)
                  | succ n71 ih71 =>
                    intro v4_71 ct114 H locs ls hn71 b4_71 j0_71 hc0 hc5 hc10 hc20 hI hP hD hS hl
                    refine lv_iload hx hb dX9_canAll_71 (lv_at hl 0 rfl) ?_
                    refine lv_aload_n hx hb dX9_canAll_73 rfl (lv_at hl 1 rfl) ?_
                    obtain ⟨bks116, lks117, gos118, shn119, tpd120, pl0121, ln0122, flt123, opn124, cmy125, wtg126, nm0127, mst128, sus129, cut130, h131, h132, h133, h134, h135, h136, h137, h138, h139, h140, h141, h142, h143, h144, h145, h146, h147, h148, h149, h150, hs115⟩ := a9_0 hI.1
                    refine va_get (D := g.1) (ci := 9) (v := .ref (ad 5)) (C := RX9) (T := TX9) (N := 47) hx hb hg inG9 hown hK hP 0 (zw_at (by omega) hs115) rfl 9 (by decide) (hg _ mm_967) (fun _ h9 => h9) rfl dX9_canAll_74 ?_
                    refine lv_iload_n hx hb dX9_canAll_77 rfl (lv_at hl 2 rfl) ?_
                    obtain ⟨f152, hp153, hs151⟩ := a9_5 hI.1
                    refine va_iald hx hb hK hP 5 0 (zw_at (by omega) hs151) rfl (z_in rfl (by omega) (by omega)) dX9_canAll_78 ?_
                    refine lv_topi (fun y154 ey154 => ?_)
                    have hy154 := hp153 _ (z_clt (x := b) rfl (by omega) (by omega))
                    rw [← ey154] at hy154
                    have hy154 : 0 ≤ y154.toInt ∧ y154.toInt ≤ 8 := hy154
                    have hn5 : zar (ct 5) b.toInt.toNat = y154 := by rw [zar_of (hc5.symm.trans hs151), ey154, z_cl (x := b) (k := b.toInt.toNat) (by omega)]
                    refine lv_icmp_ge (tgt := 131) hx hb dX9_canAll_79 (by decide) (fun c155 => ?_) (fun c155 => ?_)
                    · skip
                      have c155 : y154.toInt ≤ v4_71.toInt := (z_le rfl rfl).mp c155
                      refine lv_iconst (v := 1) hx hb dX9_canAll_131 (by decide) ?_
                      have q156 : (1 : Int32).toInt = 1 := by decide
                      exact W.zret (v := 1) hx hb hr rfl (fun t ht hW => ⟨⟨1, 1, rfl, by first | exact Or.inl ⟨rfl, rfl⟩ | exact Or.inr ⟨rfl, rfl⟩, ct114, by rw [ht]; exact hP, hD, hI, (fun _ => CA_done j0_71 (by rw [hn5]; omega) (by rw [hn5]; omega) htd), (fun q => absurd q (by decide)), (by first | assumption | omega), (by first | assumption | omega), (by first | assumption | omega), (by first | assumption | omega)⟩, hS.F ht⟩) hS.2.2 dX9_canAll_132
                    · skip
                      have c155 : ¬ (y154.toInt ≤ v4_71.toInt) := fun q => c155 ((z_le rfl rfl).mpr q)
                      refine lv_aload_n hx hb dX9_canAll_82 rfl (lv_at hl 1 rfl) ?_
                      refine va_get (D := g.1) (ci := 9) (v := .ref (ad 10)) (C := RX9) (T := TX9) (N := 47) hx hb hg inG9 hown hK hP 0 (zw_at (by omega) hs115) rfl 14 (by decide) (hg _ mm_972) (fun _ h9 => h9) rfl dX9_canAll_83 ?_
                      refine lv_iload_n hx hb dX9_canAll_86 rfl (lv_at hl 2 rfl) ?_
                      refine lv_iload hx hb dX9_canAll_87 (lv_at hl 0 rfl) ?_
                      refine zc_i (va_runS (As := [.int b, .int v4_71]) (rest := [.ref (ad 10)]) ⟨hx, hb, hml, hown, hg⟩ (k_X9_at l g ad me ct114 b v4_71 (by first | omega | decide) (by first | omega | decide) hI) (va_cwS 2 hg (z_gS mm_1159 mm_1160 mm_117 mm_1161) rfl rfl rfl (by decide +kernel) ⟨Nat.le_of_ble_eq_true rfl, Nat.le_of_ble_eq_true rfl⟩) (zR.pre [.int b, .int v4_71] hP hK hN) rfl rfl hl.1 rfl (lv_room (Nat.le_of_ble_eq_true rfl)) dX9_canAll_89 ⟨Nat.le_of_ble_eq_true rfl, Nat.le_of_ble_eq_true rfl⟩) (fun r157 hr157 => ?_)
                      have hr157_0 := hr157
                      have hr157_0 : r157.toInt = 8 * b.toInt + v4_71.toInt := hr157_0
                      obtain ⟨f159, hp160, hs158⟩ := a9_10 hI.1
                      refine va_zald hx hb hK hP 10 3 (zw_at (by omega) hs158) rfl (z_in rfl (by omega) (by omega)) dX9_canAll_92 ?_
                      refine lv_topi (fun y161 ey161 => ?_)
                      have hy161 := hp160 _ (z_clt (x := r157) rfl (by omega) (by omega))
                      rw [← ey161] at hy161
                      have hy161 : y161 = 0 ∨ y161 = 1 := hy161
                      have by161 := z_b01 hy161
                      have hlv : zar (ct 10) (8 * b.toInt.toNat + v4_71.toInt.toNat) = y161 := by rw [zar_of (hc10.symm.trans hs158), ey161, z_cl (x := r157) (k := 8 * b.toInt.toNat + v4_71.toInt.toNat) (by omega)]
                      refine lv_if_ne (tgt := 125) hx hb dX9_canAll_93 (by decide) (fun c162 => ?_) (fun c162 => ?_)
                      · skip
                        have c162 : ¬ (y161.toInt = 0) := fun q => c162 ((z_eq rfl (by decide : (0 : Int32).toInt = 0)).mpr q)
                        have hca2 := CA_skip j0_71 (by omega) (Or.inl (fun q => by unfold zlive at q; rw [hlv] at q; omega))
                        obtain ⟨x163, ex163⟩ : ∃ y : Int32, y = v4_71 + 1 := ⟨_, rfl⟩
                        have tx163 : x163.toInt = v4_71.toInt + 1 := by rw [ex163]; exact z_add rfl (by decide : (1 : Int32).toInt = 1) (by omega) (by omega)
                        refine lv_iinc (v := x163) (lv' := [(4, .int x163), (0, .ref (ad 0)), (1, .int b), (2, .int to), (3, .int pn)]) hx hb dX9_canAll_125 hl (k := 0) rfl (by rw [ex163]; rfl) (by decide) rfl (fun ls hl => ?_)
                        rw [← tx163] at hca2
                        refine lv_goto (tgt := 71) hx hb dX9_canAll_128 (by decide) ?_
                        exact ih71 x163 ct114 _ _ ls (by omega) (by first | assumption | omega | decide) (by first | assumption | omega | decide) (by first | assumption | omega | decide) (by first | assumption | omega | decide) (by first | assumption | omega | decide) (by first | assumption | omega | decide) hI hP hD hS (lv_sub hl [0, 1, 2, 3, 4] rfl)
                      · skip
                        have c162 : y161.toInt = 0 := (z_eq rfl (by decide : (0 : Int32).toInt = 0)).mp c162
                        have hlive : zlive (zar (ct 10)) b.toInt v4_71.toInt.toNat := by unfold zlive; rw [hlv]; omega
                        refine lv_iload hx hb dX9_canAll_96 (lv_at hl 0 rfl) ?_
                        refine lv_iload_n hx hb dX9_canAll_98 rfl (lv_at hl 3 rfl) ?_
                        refine lv_icmp_eq (tgt := 125) hx hb dX9_canAll_99 (by decide) (fun c164 => ?_) (fun c164 => ?_)
                        · skip
                          have c164 : v4_71.toInt = to.toInt := (z_eq rfl rfl).mp c164
                          exfalso
                          omega
                        · skip
                          have c164 : ¬ (v4_71.toInt = to.toInt) := fun q => c164 ((z_eq rfl rfl).mpr q)
                          refine lv_aload_n hx hb dX9_canAll_102 rfl (lv_at hl 1 rfl) ?_
                          refine lv_iload hx hb dX9_canAll_103 (lv_at hl 0 rfl) ?_
                          refine lv_iload_n hx hb dX9_canAll_105 rfl (lv_at hl 3 rfl) ?_
                          refine lv_iconst (v := (-1)) hx hb dX9_canAll_106 (by decide) ?_
                          refine lv_icmp_ne (tgt := 114) hx hb dX9_canAll_107 (by decide) (fun c165 => ?_) (fun c165 => ?_)
                          · skip
                            have c165 : ¬ (to.toInt = (-1)) := fun q => c165 ((z_eq rfl (by decide : ((-1) : Int32).toInt = (-1))).mpr q)
                            refine lv_iconst (v := 1) hx hb dX9_canAll_114 (by decide) ?_
                            refine lv_iload_n hx hb dX9_canAll_115 rfl (lv_at hl 4 rfl) ?_
                            refine lv_ishl hx hb dX9_canAll_116 ?_
                            refine lv_topi (fun x166 ex166 => ?_)
                            have tx166 := z_shl1 (y := pn) rfl (by omega) (k := 15) (by decide) (by omega)
                            rw [← ex166] at tx166
                            have htk : ztk to pn = x166 := by rw [ex166]; exact if_neg (by omega)
                            have hpr := CA_pre j0_71 (by omega) (by omega) htk
                            have k20 := hc20
                            have hFc := zw_free hD hS hA
                            refine va_calli (va_runV (As := [.int v4_71, .int x166]) (rest := []) ⟨hx, hb, hml, hown, hg⟩ (k_X9_findsOne l g _ ad me ct114 v4_71 x166 (by first | omega | decide) (by first | omega | decide) hI (by rw [hc20]; exact hpr.1) (hpr.2)) (cwV 2 hg (z_gV mm_1361 mm_1363 mm_90 mm_117 mm_1364) rfl rfl rfl (by decide +kernel) ⟨Nat.le_of_ble_eq_true rfl, Nat.le_of_ble_eq_true rfl⟩) ⟨(zA.pre [.ref (ad 0), .int v4_71, .int x166] hP hK hD hN).1, va_recv hK hP (ci := 9) (q0 := 0) rfl (zw_at (by omega) hs115), (zA.pre [.ref (ad 0), .int v4_71, .int x166] hP hK hD hN).2⟩ rfl rfl hl.1 rfl (lv_room (Nat.le_of_ble_eq_true rfl)) dX9_canAll_117 ⟨Nat.le_of_ble_eq_true rfl, Nat.le_of_ble_eq_true rfl⟩) hS (fun q _ h => hFc q h) hFc (fun r167 u175 t H1 locs ht hvm hr167 hB hz1 hk1 hS => ?_)
                            obtain ⟨ct168, hP1, hD1, hI, hk169, hk170, hk171, hk172, hk173, hk174⟩ := hB
                            rw [ht] at hP1
                            have hD := hD1.weaken (fun _ _ _ h => hFc _ h)
                            generalize H1 = H at hP1 hS ⊢
                            have hP := hP1
                            refine W.widen (k := 0) (n := 0) (Nat.le_refl _) (Nat.le_refl _) ?_
                            have hc0 : ct168 0 = ct 0 := hk171.trans hc0
                            have hc5 : ct168 5 = ct 5 := hk172.trans hc5
                            have hc10 : ct168 10 = ct 10 := hk173.trans hc10
                            have hc20 : ct168 20 = ct 20 := hk174.trans hc20
                            have hs176 : ct168 0 = .inr (9, [.int me, .ref (ad 1), .ref (ad 2), .ref (ad 3), .ref (ad 4), .int bks116, .int lks117, .int gos118, .int shn119, .ref (ad 5), .ref (ad 6), .ref (ad 7), .ref (ad 8), .ref (ad 9), .ref (ad 10), .ref (ad 11), .int tpd120, .int pl0121, .int ln0122, .int flt123, .int opn124, .int cmy125, .int wtg126, .int nm0127, .ref (ad 12), .ref (ad 13), .ref (ad 14), .ref (ad 15), .ref (ad 16), .ref (ad 17), .ref (ad 18), .ref (ad 19), .ref (ad 20), .ref (ad 21), .ref (ad 22), .ref (ad 23), .ref (ad 24), .ref (ad 25), .ref (ad 26), .ref (ad 27), .int mst128, .int sus129, .ref (ad 28), .ref (ad 29), .ref (ad 30), .ref (ad 31), .int cut130]) := hk171.trans hs115
                            have hs177 : ct168 5 = .inl (g.2 0, 4, .inl f152) := hk172.trans hs151
                            have hs178 : ct168 10 = .inl (g.2 3, 32, .inl f159) := hk173.trans hs158
                            rcases hr167 with hr167 | hr167
                            · skip
                              obtain ⟨rfl, h179⟩ := hr167
                              replace h179 : u175 = 1 := h179
                              have hk169 := hk169 h179
                              have hca2 := CA_next j0_71 (by omega) htk (by rw [← k20]; exact hk169.1) hk169.2 hlive (by omega)
                              refine lv_if_ne (tgt := 125) hx hb dX9_canAll_120 (by decide) (fun c180 => ?_) (fun c180 => ?_)
                              · skip
                                obtain ⟨x181, ex181⟩ : ∃ y : Int32, y = v4_71 + 1 := ⟨_, rfl⟩
                                have tx181 : x181.toInt = v4_71.toInt + 1 := by rw [ex181]; exact z_add rfl (by decide : (1 : Int32).toInt = 1) (by omega) (by omega)
                                refine lv_iinc (v := x181) (lv' := [(4, .int x181), (0, .ref (ad 0)), (1, .int b), (2, .int to), (3, .int pn)]) hx hb dX9_canAll_125 hl (k := 0) rfl (by rw [ex181]; rfl) (by decide) rfl (fun ls hl => ?_)
                                rw [← tx181] at hca2
                                refine lv_goto (tgt := 71) hx hb dX9_canAll_128 (by decide) ?_
                                exact ih71 x181 ct168 _ _ ls (by omega) (by first | assumption | omega | decide) (by first | assumption | omega | decide) (by first | assumption | omega | decide) (by first | assumption | omega | decide) (by first | assumption | omega | decide) (by first | assumption | omega | decide) hI hP hD hS (lv_sub hl [0, 1, 2, 3, 4] rfl)
                              · skip
                                exact absurd c180 (by decide)
                            · skip
                              obtain ⟨rfl, h182⟩ := hr167
                              replace h182 : u175 = 0 := h182
                              have hk170 := hk170 h182
                              refine lv_if_ne (tgt := 125) hx hb dX9_canAll_120 (by decide) (fun c183 => ?_) (fun c183 => ?_)
                              · skip
                                exact absurd c183 (by decide)
                              · skip
                                refine lv_iconst (v := 0) hx hb dX9_canAll_123 (by decide) ?_
                                have q184 : (0 : Int32).toInt = 0 := by decide
                                exact W.zret (v := 0) hx hb hr rfl (fun t ht hW => ⟨⟨0, 0, rfl, by first | exact Or.inl ⟨rfl, rfl⟩ | exact Or.inr ⟨rfl, rfl⟩, ct168, by rw [ht]; exact hP, hD, hI, (fun q => absurd q (by decide)), (fun _ => CA_fail j0_71 (by omega) (by rw [hn5]; omega) (by rw [hn5]; omega) htk (by rw [← k20]; exact hk170) hlive (by omega)), (by first | assumption | omega), (by first | assumption | omega), (by first | assumption | omega), (by first | assumption | omega)⟩, hS.F ht⟩) hS.2.2 dX9_canAll_124
                          · skip
                            have c165 : to.toInt = (-1) := (z_eq rfl (by decide : ((-1) : Int32).toInt = (-1))).mp c165
                            refine lv_iconst (v := 0) hx hb dX9_canAll_110 (by decide) ?_
                            refine lv_goto (tgt := 117) hx hb dX9_canAll_111 (by decide) ?_
                            have htk : ztk to pn = (0 : Int32) := if_pos (by omega)
                            have hpr := CA_pre j0_71 (by omega) (by omega) htk
                            have k20 := hc20
                            have hFc := zw_free hD hS hA
                            refine va_calli (va_runV (As := [.int v4_71, .int 0]) (rest := []) ⟨hx, hb, hml, hown, hg⟩ (k_X9_findsOne l g _ ad me ct114 v4_71 (0 : Int32) (by first | omega | decide) (by first | omega | decide) hI (by rw [hc20]; exact hpr.1) (hpr.2)) (cwV 2 hg (z_gV mm_1361 mm_1363 mm_90 mm_117 mm_1364) rfl rfl rfl (by decide +kernel) ⟨Nat.le_of_ble_eq_true rfl, Nat.le_of_ble_eq_true rfl⟩) ⟨(zA.pre [.ref (ad 0), .int v4_71, .int 0] hP hK hD hN).1, va_recv hK hP (ci := 9) (q0 := 0) rfl (zw_at (by omega) hs115), (zA.pre [.ref (ad 0), .int v4_71, .int 0] hP hK hD hN).2⟩ rfl rfl hl.1 rfl (lv_room (Nat.le_of_ble_eq_true rfl)) dX9_canAll_117 ⟨Nat.le_of_ble_eq_true rfl, Nat.le_of_ble_eq_true rfl⟩) hS (fun q _ h => hFc q h) hFc (fun r185 u193 t H1 locs ht hvm hr185 hB hz1 hk1 hS => ?_)
                            obtain ⟨ct186, hP1, hD1, hI, hk187, hk188, hk189, hk190, hk191, hk192⟩ := hB
                            rw [ht] at hP1
                            have hD := hD1.weaken (fun _ _ _ h => hFc _ h)
                            generalize H1 = H at hP1 hS ⊢
                            have hP := hP1
                            refine W.widen (k := 0) (n := 0) (Nat.le_refl _) (Nat.le_refl _) ?_
                            have hc0 : ct186 0 = ct 0 := hk189.trans hc0
                            have hc5 : ct186 5 = ct 5 := hk190.trans hc5
                            have hc10 : ct186 10 = ct 10 := hk191.trans hc10
                            have hc20 : ct186 20 = ct 20 := hk192.trans hc20
                            have hs194 : ct186 0 = .inr (9, [.int me, .ref (ad 1), .ref (ad 2), .ref (ad 3), .ref (ad 4), .int bks116, .int lks117, .int gos118, .int shn119, .ref (ad 5), .ref (ad 6), .ref (ad 7), .ref (ad 8), .ref (ad 9), .ref (ad 10), .ref (ad 11), .int tpd120, .int pl0121, .int ln0122, .int flt123, .int opn124, .int cmy125, .int wtg126, .int nm0127, .ref (ad 12), .ref (ad 13), .ref (ad 14), .ref (ad 15), .ref (ad 16), .ref (ad 17), .ref (ad 18), .ref (ad 19), .ref (ad 20), .ref (ad 21), .ref (ad 22), .ref (ad 23), .ref (ad 24), .ref (ad 25), .ref (ad 26), .ref (ad 27), .int mst128, .int sus129, .ref (ad 28), .ref (ad 29), .ref (ad 30), .ref (ad 31), .int cut130]) := hk189.trans hs115
                            have hs195 : ct186 5 = .inl (g.2 0, 4, .inl f152) := hk190.trans hs151
                            have hs196 : ct186 10 = .inl (g.2 3, 32, .inl f159) := hk191.trans hs158
                            rcases hr185 with hr185 | hr185
                            · skip
                              obtain ⟨rfl, h197⟩ := hr185
                              replace h197 : u193 = 1 := h197
                              have hk187 := hk187 h197
                              have hca2 := CA_next j0_71 (by omega) htk (by rw [← k20]; exact hk187.1) hk187.2 hlive (by omega)
                              refine lv_if_ne (tgt := 125) hx hb dX9_canAll_120 (by decide) (fun c198 => ?_) (fun c198 => ?_)
                              · skip
                                obtain ⟨x199, ex199⟩ : ∃ y : Int32, y = v4_71 + 1 := ⟨_, rfl⟩
                                have tx199 : x199.toInt = v4_71.toInt + 1 := by rw [ex199]; exact z_add rfl (by decide : (1 : Int32).toInt = 1) (by omega) (by omega)
                                refine lv_iinc (v := x199) (lv' := [(4, .int x199), (0, .ref (ad 0)), (1, .int b), (2, .int to), (3, .int pn)]) hx hb dX9_canAll_125 hl (k := 0) rfl (by rw [ex199]; rfl) (by decide) rfl (fun ls hl => ?_)
                                rw [← tx199] at hca2
                                refine lv_goto (tgt := 71) hx hb dX9_canAll_128 (by decide) ?_
                                exact ih71 x199 ct186 _ _ ls (by omega) (by first | assumption | omega | decide) (by first | assumption | omega | decide) (by first | assumption | omega | decide) (by first | assumption | omega | decide) (by first | assumption | omega | decide) (by first | assumption | omega | decide) hI hP hD hS (lv_sub hl [0, 1, 2, 3, 4] rfl)
                              · skip
                                exact absurd c198 (by decide)
                            · skip
                              obtain ⟨rfl, h200⟩ := hr185
                              replace h200 : u193 = 0 := h200
                              have hk188 := hk188 h200
                              refine lv_if_ne (tgt := 125) hx hb dX9_canAll_120 (by decide) (fun c201 => ?_) (fun c201 => ?_)
                              · skip
                                exact absurd c201 (by decide)
                              · skip
                                refine lv_iconst (v := 0) hx hb dX9_canAll_123 (by decide) ?_
                                have q202 : (0 : Int32).toInt = 0 := by decide
                                exact W.zret (v := 0) hx hb hr rfl (fun t ht hW => ⟨⟨0, 0, rfl, by first | exact Or.inl ⟨rfl, rfl⟩ | exact Or.inr ⟨rfl, rfl⟩, ct186, by rw [ht]; exact hP, hD, hI, (fun q => absurd q (by decide)), (fun _ => CA_fail j0_71 (by omega) (by rw [hn5]; omega) (by rw [hn5]; omega) htk (by rw [← k20]; exact hk188) hlive (by omega)), (by first | assumption | omega), (by first | assumption | omega), (by first | assumption | omega), (by first | assumption | omega)⟩, hS.F ht⟩) hS.2.2 dX9_canAll_124
                have hca : CA (zar (ct 20)) (zar (ct76 23)) (zar (ct76 24)) (zar (ct 10)) me.toInt b.toInt to pn ((0 : Int32)).toInt := CA_start j1_47 (fun j hj => j0_47 j (by omega))
                exact loop71 ((8 - (0 : Int32).toInt : Int).toNat + 1) (0 : Int32) ct76 _ _ ls (by omega) (by first | assumption | omega | decide) (by first | assumption | omega | decide) (by first | assumption | omega | decide) (by first | assumption | omega | decide) (by first | assumption | omega | decide) (by first | assumption | omega | decide) hI hP hD hS (lv_sub hl [0, 1, 2, 3, 4] rfl)
              · skip
                have c77 : ¬ (8 ≤ v4_47.toInt) := fun q => c77 ((z_le (by decide : (8 : Int32).toInt = 8) rfl).mpr q)
                refine lv_aload_n hx hb dX9_canAll_54 rfl (lv_at hl 1 rfl) ?_
                obtain ⟨bks204, lks205, gos206, shn207, tpd208, pl0209, ln0210, flt211, opn212, cmy213, wtg214, nm0215, mst216, sus217, cut218, h219, h220, h221, h222, h223, h224, h225, h226, h227, h228, h229, h230, h231, h232, h233, h234, h235, h236, h237, h238, hs203⟩ := a9_0 hI.1
                refine va_get (D := g.1) (ci := 9) (v := .ref (ad 23)) (C := RX9) (T := TX9) (N := 47) hx hb hg inG9 hown hK hP 0 (zw_at (by omega) hs203) rfl 35 (by decide) (hg _ mm_993) (fun _ h9 => h9) rfl dX9_canAll_55 ?_
                refine lv_iload hx hb dX9_canAll_58 (lv_at hl 0 rfl) ?_
                refine lv_iconst (v := (-1)) hx hb dX9_canAll_60 (by decide) ?_
                obtain ⟨f240, hp241, hs239⟩ := a9_23 hI.1
                refine va_iast hx hb hK hP hD hS 23 0 (zw_at (by omega) hs239) rfl (z_in rfl (by omega) (by omega)) dX9_canAll_61 (fun H locs hP hD hS => ?_)
                have hp243 : ∀ j : Nat, j < 8 → (fun x : Int32 => (-1) ≤ x.toInt ∧ x.toInt ≤ 15) ((upd f240 (Int32.toNatClampNeg v4_47) (-1)) j) := fun j hj => by
                  unfold upd
                  by_cases q : j = Int32.toNatClampNeg v4_47
                  · rw [if_pos q]
                    have qv : ((-1) : Int32).toInt = -1 := by decide
                    exact (show (-1) ≤ ((-1) : Int32).toInt ∧ ((-1) : Int32).toInt ≤ 15 from (by first | omega | decide))
                  · rw [if_neg q]; exact hp241 j hj
                have hP : zP g ((zw 32 ad ct76).set 23 (ad 23, .inl (g.2 0, 8, .inl (upd f240 (Int32.toNatClampNeg v4_47) (-1))))) H := hP
                have hD : va_D A ((zw 32 ad ct76).set 23 (ad 23, .inl (g.2 0, 8, .inl (upd f240 (Int32.toNatClampNeg v4_47) (-1))))) := hD
                rw [zw_set (by omega)] at hP hD
                obtain ⟨ct244, ec245⟩ : ∃ z : Nat → va_E, z = va_up ct76 23 (.inl (g.2 0, 8, .inl (upd f240 (Int32.toNatClampNeg v4_47) (-1)))) := ⟨_, rfl⟩
                rw [← ec245] at hP hD
                have hI : IR g ad me ct244 := by rw [ec245]; exact upR hI (by decide) (i9_23 ⟨_, hp243, rfl⟩)
                have hc0 : ct244 0 = ct 0 := by rw [ec245]; exact (va_up_ne _ _ (by omega)).trans hc0
                have hc5 : ct244 5 = ct 5 := by rw [ec245]; exact (va_up_ne _ _ (by omega)).trans hc5
                have hc10 : ct244 10 = ct 10 := by rw [ec245]; exact (va_up_ne _ _ (by omega)).trans hc10
                have hc20 : ct244 20 = ct 20 := by rw [ec245]; exact (va_up_ne _ _ (by omega)).trans hc20
                have hs246 : ct244 0 = .inr (9, [.int me, .ref (ad 1), .ref (ad 2), .ref (ad 3), .ref (ad 4), .int bks204, .int lks205, .int gos206, .int shn207, .ref (ad 5), .ref (ad 6), .ref (ad 7), .ref (ad 8), .ref (ad 9), .ref (ad 10), .ref (ad 11), .int tpd208, .int pl0209, .int ln0210, .int flt211, .int opn212, .int cmy213, .int wtg214, .int nm0215, .ref (ad 12), .ref (ad 13), .ref (ad 14), .ref (ad 15), .ref (ad 16), .ref (ad 17), .ref (ad 18), .ref (ad 19), .ref (ad 20), .ref (ad 21), .ref (ad 22), .ref (ad 23), .ref (ad 24), .ref (ad 25), .ref (ad 26), .ref (ad 27), .int mst216, .int sus217, .ref (ad 28), .ref (ad 29), .ref (ad 30), .ref (ad 31), .int cut218]) := by rw [ec245, va_up_ne _ _ (by omega)]; exact hs203
                have hs247 : ct244 23 = .inl (g.2 0, 8, .inl (upd f240 (Int32.toNatClampNeg v4_47) (-1))) := by rw [ec245]; exact va_up_self _ _ _
                have hfl : ∀ j : Nat, (j : Int) < v4_47.toInt + 1 → (zar (ct244 23) j).toInt = -1 := fun j hj => by
                  rw [zar_of hs247]
                  by_cases q : (j : Int) = v4_47.toInt
                  · rw [z_cl (x := v4_47) (k := j) (by omega), upd_sm]
                    decide
                  · rw [upd_other (by have := z_clI (x := v4_47) (by omega); omega), ← zar_of hs239]
                    exact j0_47 j (by omega)
                have hg17 : ∀ j : Nat, (j : Int) < 16 → (zar (ct244 24) j).toInt = -1 := by
                  rw [show ct244 24 = ct76 24 from by rw [ec245]; exact va_up_ne _ _ (by omega)]
                  exact j1_47
                obtain ⟨x248, ex248⟩ : ∃ y : Int32, y = v4_47 + 1 := ⟨_, rfl⟩
                have tx248 : x248.toInt = v4_47.toInt + 1 := by rw [ex248]; exact z_add rfl (by decide : (1 : Int32).toInt = 1) (by omega) (by omega)
                refine lv_iinc (v := x248) (lv' := [(4, .int x248), (0, .ref (ad 0)), (1, .int b), (2, .int to), (3, .int pn)]) hx hb dX9_canAll_62 hl (k := 0) rfl (by rw [ex248]; rfl) (by decide) rfl (fun ls hl => ?_)
                have hfl2 : ∀ j : Nat, (j : Int) < x248.toInt → (zar (ct244 23) j).toInt = -1 := fun j hj => hfl j (by omega)
                refine lv_goto (tgt := 47) hx hb dX9_canAll_65 (by decide) ?_
                exact ih47 x248 ct244 _ _ ls (by omega) (by first | assumption | omega | decide) (by first | assumption | omega | decide) (by first | assumption | omega | decide) (by first | assumption | omega | decide) (by first | assumption | omega | decide) (by first | assumption | omega | decide) (by first | assumption | omega | decide) hI hP hD hS (lv_sub hl [0, 1, 2, 3, 4] rfl)
          have hf0 : ∀ j : Nat, (j : Int) < ((0 : Int32)).toInt → (zar (ct38 23) j).toInt = -1 := fun j hj => by omega
          have hg16 : ∀ j : Nat, (j : Int) < 16 → (zar (ct38 24) j).toInt = -1 := fun j hj => j0_23 j (by omega)
          exact loop47 ((8 - (0 : Int32).toInt : Int).toNat + 1) (0 : Int32) ct38 _ _ ls (by omega) (by first | assumption | omega | decide) (by first | assumption | omega | decide) (by first | assumption | omega | decide) (by first | assumption | omega | decide) (by first | assumption | omega | decide) (by first | assumption | omega | decide) (by first | assumption | omega | decide) hI hP hD hS (lv_sub hl [0, 1, 2, 3, 4] rfl)
        · skip
          have c39 : ¬ (16 ≤ v4_23.toInt) := fun q => c39 ((z_le (by decide : (16 : Int32).toInt = 16) rfl).mpr q)
          refine lv_aload_n hx hb dX9_canAll_30 rfl (lv_at hl 1 rfl) ?_
          obtain ⟨bks250, lks251, gos252, shn253, tpd254, pl0255, ln0256, flt257, opn258, cmy259, wtg260, nm0261, mst262, sus263, cut264, h265, h266, h267, h268, h269, h270, h271, h272, h273, h274, h275, h276, h277, h278, h279, h280, h281, h282, h283, h284, hs249⟩ := a9_0 hI.1
          refine va_get (D := g.1) (ci := 9) (v := .ref (ad 24)) (C := RX9) (T := TX9) (N := 47) hx hb hg inG9 hown hK hP 0 (zw_at (by omega) hs249) rfl 36 (by decide) (hg _ mm_994) (fun _ h9 => h9) rfl dX9_canAll_31 ?_
          refine lv_iload hx hb dX9_canAll_34 (lv_at hl 0 rfl) ?_
          refine lv_iconst (v := (-1)) hx hb dX9_canAll_36 (by decide) ?_
          obtain ⟨f286, hp287, hs285⟩ := a9_24 hI.1
          refine va_iast hx hb hK hP hD hS 24 0 (zw_at (by omega) hs285) rfl (z_in rfl (by omega) (by omega)) dX9_canAll_37 (fun H locs hP hD hS => ?_)
          have hp289 : ∀ j : Nat, j < 16 → (fun x : Int32 => (-1) ≤ x.toInt ∧ x.toInt ≤ 7) ((upd f286 (Int32.toNatClampNeg v4_23) (-1)) j) := fun j hj => by
            unfold upd
            by_cases q : j = Int32.toNatClampNeg v4_23
            · rw [if_pos q]
              have qv : ((-1) : Int32).toInt = -1 := by decide
              exact (show (-1) ≤ ((-1) : Int32).toInt ∧ ((-1) : Int32).toInt ≤ 7 from (by first | omega | decide))
            · rw [if_neg q]; exact hp287 j hj
          have hP : zP g ((zw 32 ad ct38).set 24 (ad 24, .inl (g.2 0, 16, .inl (upd f286 (Int32.toNatClampNeg v4_23) (-1))))) H := hP
          have hD : va_D A ((zw 32 ad ct38).set 24 (ad 24, .inl (g.2 0, 16, .inl (upd f286 (Int32.toNatClampNeg v4_23) (-1))))) := hD
          rw [zw_set (by omega)] at hP hD
          obtain ⟨ct290, ec291⟩ : ∃ z : Nat → va_E, z = va_up ct38 24 (.inl (g.2 0, 16, .inl (upd f286 (Int32.toNatClampNeg v4_23) (-1)))) := ⟨_, rfl⟩
          rw [← ec291] at hP hD
          have hI : IR g ad me ct290 := by rw [ec291]; exact upR hI (by decide) (i9_24 ⟨_, hp289, rfl⟩)
          have hc0 : ct290 0 = ct 0 := by rw [ec291]; exact (va_up_ne _ _ (by omega)).trans hc0
          have hc5 : ct290 5 = ct 5 := by rw [ec291]; exact (va_up_ne _ _ (by omega)).trans hc5
          have hc10 : ct290 10 = ct 10 := by rw [ec291]; exact (va_up_ne _ _ (by omega)).trans hc10
          have hc20 : ct290 20 = ct 20 := by rw [ec291]; exact (va_up_ne _ _ (by omega)).trans hc20
          have hs292 : ct290 0 = .inr (9, [.int me, .ref (ad 1), .ref (ad 2), .ref (ad 3), .ref (ad 4), .int bks250, .int lks251, .int gos252, .int shn253, .ref (ad 5), .ref (ad 6), .ref (ad 7), .ref (ad 8), .ref (ad 9), .ref (ad 10), .ref (ad 11), .int tpd254, .int pl0255, .int ln0256, .int flt257, .int opn258, .int cmy259, .int wtg260, .int nm0261, .ref (ad 12), .ref (ad 13), .ref (ad 14), .ref (ad 15), .ref (ad 16), .ref (ad 17), .ref (ad 18), .ref (ad 19), .ref (ad 20), .ref (ad 21), .ref (ad 22), .ref (ad 23), .ref (ad 24), .ref (ad 25), .ref (ad 26), .ref (ad 27), .int mst262, .int sus263, .ref (ad 28), .ref (ad 29), .ref (ad 30), .ref (ad 31), .int cut264]) := by rw [ec291, va_up_ne _ _ (by omega)]; exact hs249
          have hs293 : ct290 24 = .inl (g.2 0, 16, .inl (upd f286 (Int32.toNatClampNeg v4_23) (-1))) := by rw [ec291]; exact va_up_self _ _ _
          have hfl : ∀ j : Nat, (j : Int) < v4_23.toInt + 1 → (zar (ct290 24) j).toInt = -1 := fun j hj => by
            rw [zar_of hs293]
            by_cases q : (j : Int) = v4_23.toInt
            · rw [z_cl (x := v4_23) (k := j) (by omega), upd_sm]
              decide
            · rw [upd_other (by have := z_clI (x := v4_23) (by omega); omega), ← zar_of hs285]
              exact j0_23 j (by omega)
          obtain ⟨x294, ex294⟩ : ∃ y : Int32, y = v4_23 + 1 := ⟨_, rfl⟩
          have tx294 : x294.toInt = v4_23.toInt + 1 := by rw [ex294]; exact z_add rfl (by decide : (1 : Int32).toInt = 1) (by omega) (by omega)
          refine lv_iinc (v := x294) (lv' := [(4, .int x294), (0, .ref (ad 0)), (1, .int b), (2, .int to), (3, .int pn)]) hx hb dX9_canAll_38 hl (k := 0) rfl (by rw [ex294]; rfl) (by decide) rfl (fun ls hl => ?_)
          have hfl2 : ∀ j : Nat, (j : Int) < x294.toInt → (zar (ct290 24) j).toInt = -1 := fun j hj => hfl j (by omega)
          refine lv_goto (tgt := 23) hx hb dX9_canAll_41 (by decide) ?_
          exact ih23 x294 ct290 _ _ ls (by omega) (by first | assumption | omega | decide) (by first | assumption | omega | decide) (by first | assumption | omega | decide) (by first | assumption | omega | decide) (by first | assumption | omega | decide) (by first | assumption | omega | decide) hI hP hD hS (lv_sub hl [0, 1, 2, 3, 4] rfl)
    have hf0 : ∀ j : Nat, (j : Int) < ((0 : Int32)).toInt → (zar (ct 24) j).toInt = -1 := fun j hj => by omega
    exact loop23 ((16 - (0 : Int32).toInt : Int).toNat + 1) (0 : Int32) ct _ _ ls (by omega) (by first | assumption | omega | decide) (by first | assumption | omega | decide) (by first | assumption | omega | decide) (by first | assumption | omega | decide) (by first | assumption | omega | decide) (by first | assumption | omega | decide) hI hP hD hS (lv_sub hl [0, 1, 2, 3, 4] rfl)
  · skip
    have c1 : ¬ (to.toInt = (-1)) := fun q => c1 ((z_eq rfl (by decide : ((-1) : Int32).toInt = (-1))).mpr q)
    refine lv_aload_n hx hb dX9_canAll_5 rfl (lv_at hl 0 rfl) ?_
    obtain ⟨bks296, lks297, gos298, shn299, tpd300, pl0301, ln0302, flt303, opn304, cmy305, wtg306, nm0307, mst308, sus309, cut310, h311, h312, h313, h314, h315, h316, h317, h318, h319, h320, h321, h322, h323, h324, h325, h326, h327, h328, h329, h330, hs295⟩ := a9_0 hI.1
    refine va_get (D := g.1) (ci := 9) (v := .ref (ad 20)) (C := RX9) (T := TX9) (N := 47) hx hb hg inG9 hown hK hP 0 (zw_at (by omega) hs295) rfl 32 (by decide) (hg _ mm_990) (fun _ h9 => h9) rfl dX9_canAll_6 ?_
    refine lv_iload_n hx hb dX9_canAll_9 rfl (lv_at hl 2 rfl) ?_
    obtain ⟨f332, hp333, hs331⟩ := a9_20 hI.1
    refine va_iald hx hb hK hP 20 0 (zw_at (by omega) hs331) rfl (z_in rfl (by omega) (by omega)) dX9_canAll_10 ?_
    refine lv_topi (fun y334 ey334 => ?_)
    have hy334 := hp333 _ (z_clt (x := to) rfl (by omega) (by omega))
    rw [← ey334] at hy334
    have hy334 : 0 ≤ y334.toInt ∧ y334.toInt ≤ 65535 := hy334
    refine lv_iload_n hx hb dX9_canAll_11 rfl (lv_at hl 3 rfl) ?_
    refine lv_ishr hx hb dX9_canAll_12 ?_
    refine lv_topi (fun x335 ex335 => ?_)
    have tx335 := z_shr (x := y334) rfl (by omega) pn
    rw [← ex335] at tx335
    refine lv_iconst (v := 1) hx hb dX9_canAll_13 (by decide) ?_
    refine lv_iand hx hb dX9_canAll_14 ?_
    refine lv_topi (fun x336 ex336 => ?_)
    have tx336 := z_andr (x := x335) (y := 1) (by decide : (1 : Int32).toInt = 1) (by omega)
    rw [← ex336] at tx336
    have ey2 : zar (ct 20) to.toInt.toNat = y334 := by rw [zar_of hs331, ey334, z_cl (x := to) (k := to.toInt.toNat) (by omega)]
    have hgb := zb_get (x := y334) (y := pn) (p := pn.toInt.toNat) (by omega) (by omega) (by omega)
    rw [← ex335, ← ex336] at hgb
    refine lv_if_ne (tgt := 20) hx hb dX9_canAll_15 (by decide) (fun c337 => ?_) (fun c337 => ?_)
    · skip
      have c337 : ¬ (x336.toInt = 0) := fun q => c337 ((z_eq rfl (by decide : (0 : Int32).toInt = 0)).mpr q)
      have htd : to.toInt = -1 ∨ zb (zar (ct 20) to.toInt.toNat) pn.toInt.toNat := Or.inr (by
        rw [ey2]
        rcases hgb with ⟨g1, g2⟩ | ⟨g1, g2⟩
        · exact g2
        · omega)
      refine lv_iconst (v := 0) hx hb dX9_canAll_20 (by decide) ?_
      refine lv_istore (lv' := [(4, .int 0), (0, .ref (ad 0)), (1, .int b), (2, .int to), (3, .int pn)]) hx hb dX9_canAll_21 hl (by decide) rfl (fun ls hl => ?_)
      have loop23 : ∀ (n23 : Nat) (v4_23 : Int32) (ct338 : Nat → va_E) (H : Heap) (locs : List Loc) (ls : Array Slot), ((16 - v4_23.toInt : Int).toNat < n23) → (0 ≤ v4_23.toInt ∧ v4_23.toInt ≤ 16) → (∀ j : Nat, (j : Int) < v4_23.toInt → (zar (ct338 24) j).toInt = -1) → (ct338 0 = ct 0) → (ct338 5 = ct 5) → (ct338 10 = ct 10) → (ct338 20 = ct 20) → (IR g ad me ct338) → zP g (zw 32 ad ct338) H → va_D A (zw 32 ad ct338) → va_S A s.heap H locs → lv_has ls 5 [(4, .int v4_23), (0, .ref (ad 0)), (1, .int b), (2, .int to), (3, .int pn)] → W p l e (headSpec (zW yX9_canAll cX9_canAll 5 (some .boolean)) ({ frames := 2, cells := 0, slots := 0, locals := 52 })).room s m ([.ref (ad 0), .int b, .int to, .int pn] : List Value).toArray below meth c H locs 0 0 (MQ below (va_Qi (fun (r : Int32) (u : Int32) => (r = 1 ∧ (u = 1)) ∨ (r = 0 ∧ (u = 0))) (fun (u : Int32) t => ∃ ct2 : Nat → va_E, zP g (zw 32 ad ct2) t.heap ∧ va_D A (zw 32 ad ct2) ∧ IR g ad me ct2 ∧ (u = 1 → ∃ m, MTx (zar (ct 20)) (zar (ct 10)) (zar (ct 5) b.toInt.toNat).toInt b.toInt me.toInt to pn m) ∧ (u = 0 → ∀ m, ¬ MTx (zar (ct 20)) (zar (ct 10)) (zar (ct 5) b.toInt.toNat).toInt b.toInt me.toInt to pn m) ∧ (ct2 0 = ct 0) ∧ (ct2 5 = ct 5) ∧ (ct2 10 = ct 10) ∧ (ct2 20 = ct 20)) A) ([.ref (ad 0), .int b, .int to, .int pn] : List Value).toArray s 0 0 A) (F0 m 23 ls []) := by
        intro n23
        induction n23 with
        | zero =>
          intro v4_23 ct338 H locs ls hn23 b4_23 j0_23 hc0 hc5 hc10 hc20 hI hP hD hS hl
          exact absurd hn23 (Nat.not_lt_zero _)
        | succ n23 ih23 =>
          intro v4_23 ct338 H locs ls hn23 b4_23 j0_23 hc0 hc5 hc10 hc20 hI hP hD hS hl
          refine lv_iload hx hb dX9_canAll_23 (lv_at hl 0 rfl) ?_
          refine lv_bipush (v := 16) hx hb dX9_canAll_25 (by decide) ?_
          refine lv_icmp_ge (tgt := 44) hx hb dX9_canAll_27 (by decide) (fun c339 => ?_) (fun c339 => ?_)
          · skip
            have c339 : 16 ≤ v4_23.toInt := (z_le (by decide : (16 : Int32).toInt = 16) rfl).mp c339
            refine lv_iconst (v := 0) hx hb dX9_canAll_44 (by decide) ?_
            refine lv_istore (lv' := [(4, .int 0), (0, .ref (ad 0)), (1, .int b), (2, .int to), (3, .int pn)]) hx hb dX9_canAll_45 hl (by decide) rfl (fun ls hl => ?_)
            obtain ⟨bks341, lks342, gos343, shn344, tpd345, pl0346, ln0347, flt348, opn349, cmy350, wtg351, nm0352, mst353, sus354, cut355, h356, h357, h358, h359, h360, h361, h362, h363, h364, h365, h366, h367, h368, h369, h370, h371, h372, h373, h374, h375, hs340⟩ := a9_0 hI.1
            have loop47 : ∀ (n47 : Nat) (v4_47 : Int32) (ct376 : Nat → va_E) (H : Heap) (locs : List Loc) (ls : Array Slot), ((8 - v4_47.toInt : Int).toNat < n47) → (0 ≤ v4_47.toInt ∧ v4_47.toInt ≤ 8) → (∀ j : Nat, (j : Int) < v4_47.toInt → (zar (ct376 23) j).toInt = -1) → (∀ j : Nat, (j : Int) < 16 → (zar (ct376 24) j).toInt = -1) → (ct376 0 = ct 0) → (ct376 5 = ct 5) → (ct376 10 = ct 10) → (ct376 20 = ct 20) → (IR g ad me ct376) → zP g (zw 32 ad ct376) H → va_D A (zw 32 ad ct376) → va_S A s.heap H locs → lv_has ls 5 [(4, .int v4_47), (0, .ref (ad 0)), (1, .int b), (2, .int to), (3, .int pn)] → W p l e (headSpec (zW yX9_canAll cX9_canAll 5 (some .boolean)) ({ frames := 2, cells := 0, slots := 0, locals := 52 })).room s m ([.ref (ad 0), .int b, .int to, .int pn] : List Value).toArray below meth c H locs 0 0 (MQ below (va_Qi (fun (r : Int32) (u : Int32) => (r = 1 ∧ (u = 1)) ∨ (r = 0 ∧ (u = 0))) (fun (u : Int32) t => ∃ ct2 : Nat → va_E, zP g (zw 32 ad ct2) t.heap ∧ va_D A (zw 32 ad ct2) ∧ IR g ad me ct2 ∧ (u = 1 → ∃ m, MTx (zar (ct 20)) (zar (ct 10)) (zar (ct 5) b.toInt.toNat).toInt b.toInt me.toInt to pn m) ∧ (u = 0 → ∀ m, ¬ MTx (zar (ct 20)) (zar (ct 10)) (zar (ct 5) b.toInt.toNat).toInt b.toInt me.toInt to pn m) ∧ (ct2 0 = ct 0) ∧ (ct2 5 = ct 5) ∧ (ct2 10 = ct 10) ∧ (ct2 20 = ct 20)) A) ([.ref (ad 0), .int b, .int to, .int pn] : List Value).toArray s 0 0 A) (F0 m 47 ls []) := by
              intro n47
              induction n47 with
              | zero =>
                intro v4_47 ct376 H locs ls hn47 b4_47 j0_47 j1_47 hc0 hc5 hc10 hc20 hI hP hD hS hl
                exact absurd hn47 (Nat.not_lt_zero _)
              | succ n47 ih47 =>
                intro v4_47 ct376 H locs ls hn47 b4_47 j0_47 j1_47 hc0 hc5 hc10 hc20 hI hP hD hS hl
                refine lv_iload hx hb dX9_canAll_47 (lv_at hl 0 rfl) ?_
                refine lv_bipush (v := 8) hx hb dX9_canAll_49 (by decide) ?_
                refine lv_icmp_ge (tgt := 68) hx hb dX9_canAll_51 (by decide) (fun c377 => ?_) (fun c377 => ?_)
                · skip
                  have c377 : 8 ≤ v4_47.toInt := (z_le (by decide : (8 : Int32).toInt = 8) rfl).mp c377
                  refine lv_iconst (v := 0) hx hb dX9_canAll_68 (by decide) ?_
                  refine lv_istore (lv' := [(4, .int 0), (0, .ref (ad 0)), (1, .int b), (2, .int to), (3, .int pn)]) hx hb dX9_canAll_69 hl (by decide) rfl (fun ls hl => ?_)
                  obtain ⟨bks379, lks380, gos381, shn382, tpd383, pl0384, ln0385, flt386, opn387, cmy388, wtg389, nm0390, mst391, sus392, cut393, h394, h395, h396, h397, h398, h399, h400, h401, h402, h403, h404, h405, h406, h407, h408, h409, h410, h411, h412, h413, hs378⟩ := a9_0 hI.1
                  have loop71 : ∀ (n71 : Nat) (v4_71 : Int32) (ct414 : Nat → va_E) (H : Heap) (locs : List Loc) (ls : Array Slot), ((8 - v4_71.toInt : Int).toNat < n71) → (0 ≤ v4_71.toInt ∧ v4_71.toInt ≤ 8) → (CA (zar (ct 20)) (zar (ct414 23)) (zar (ct414 24)) (zar (ct 10)) me.toInt b.toInt to pn v4_71.toInt) → (ct414 0 = ct 0) → (ct414 5 = ct 5) → (ct414 10 = ct 10) → (ct414 20 = ct 20) → (IR g ad me ct414) → zP g (zw 32 ad ct414) H → va_D A (zw 32 ad ct414) → va_S A s.heap H locs → lv_has ls 5 [(4, .int v4_71), (0, .ref (ad 0)), (1, .int b), (2, .int to), (3, .int pn)] → W p l e (headSpec (zW yX9_canAll cX9_canAll 5 (some .boolean)) ({ frames := 2, cells := 0, slots := 0, locals := 52 })).room s m ([.ref (ad 0), .int b, .int to, .int pn] : List Value).toArray below meth c H locs 0 0 (MQ below (va_Qi (fun (r : Int32) (u : Int32) => (r = 1 ∧ (u = 1)) ∨ (r = 0 ∧ (u = 0))) (fun (u : Int32) t => ∃ ct2 : Nat → va_E, zP g (zw 32 ad ct2) t.heap ∧ va_D A (zw 32 ad ct2) ∧ IR g ad me ct2 ∧ (u = 1 → ∃ m, MTx (zar (ct 20)) (zar (ct 10)) (zar (ct 5) b.toInt.toNat).toInt b.toInt me.toInt to pn m) ∧ (u = 0 → ∀ m, ¬ MTx (zar (ct 20)) (zar (ct 10)) (zar (ct 5) b.toInt.toNat).toInt b.toInt me.toInt to pn m) ∧ (ct2 0 = ct 0) ∧ (ct2 5 = ct 5) ∧ (ct2 10 = ct 10) ∧ (ct2 20 = ct 20)) A) ([.ref (ad 0), .int b, .int to, .int pn] : List Value).toArray s 0 0 A) (F0 m 71 ls []) := by
                    intro n71
                    induction n71 with
                    | zero =>
                      intro v4_71 ct414 H locs ls hn71 b4_71 j0_71 hc0 hc5 hc10 hc20 hI hP hD hS hl
                      exact absurd hn71 (Nat.not_lt_zero _)
                    | succ n71 ih71 =>
                      intro v4_71 ct414 H locs ls hn71 b4_71 j0_71 hc0 hc5 hc10 hc20 hI hP hD hS hl
                      refine lv_iload hx hb dX9_canAll_71 (lv_at hl 0 rfl) ?_
                      refine lv_aload_n hx hb dX9_canAll_73 rfl (lv_at hl 1 rfl) ?_
                      obtain ⟨bks416, lks417, gos418, shn419, tpd420, pl0421, ln0422, flt423, opn424, cmy425, wtg426, nm0427, mst428, sus429, cut430, h431, h432, h433, h434, h435, h436, h437, h438, h439, h440, h441, h442, h443, h444, h445, h446, h447, h448, h449, h450, hs415⟩ := a9_0 hI.1
                      refine va_get (D := g.1) (ci := 9) (v := .ref (ad 5)) (C := RX9) (T := TX9) (N := 47) hx hb hg inG9 hown hK hP 0 (zw_at (by omega) hs415) rfl 9 (by decide) (hg _ mm_967) (fun _ h9 => h9) rfl dX9_canAll_74 ?_
                      refine lv_iload_n hx hb dX9_canAll_77 rfl (lv_at hl 2 rfl) ?_
                      obtain ⟨f452, hp453, hs451⟩ := a9_5 hI.1
                      refine va_iald hx hb hK hP 5 0 (zw_at (by omega) hs451) rfl (z_in rfl (by omega) (by omega)) dX9_canAll_78 ?_
                      refine lv_topi (fun y454 ey454 => ?_)
                      have hy454 := hp453 _ (z_clt (x := b) rfl (by omega) (by omega))
                      rw [← ey454] at hy454
                      have hy454 : 0 ≤ y454.toInt ∧ y454.toInt ≤ 8 := hy454
                      have hn5 : zar (ct 5) b.toInt.toNat = y454 := by rw [zar_of (hc5.symm.trans hs451), ey454, z_cl (x := b) (k := b.toInt.toNat) (by omega)]
                      refine lv_icmp_ge (tgt := 131) hx hb dX9_canAll_79 (by decide) (fun c455 => ?_) (fun c455 => ?_)
                      · skip
                        have c455 : y454.toInt ≤ v4_71.toInt := (z_le rfl rfl).mp c455
                        refine lv_iconst (v := 1) hx hb dX9_canAll_131 (by decide) ?_
                        have q456 : (1 : Int32).toInt = 1 := by decide
                        exact W.zret (v := 1) hx hb hr rfl (fun t ht hW => ⟨⟨1, 1, rfl, by first | exact Or.inl ⟨rfl, rfl⟩ | exact Or.inr ⟨rfl, rfl⟩, ct414, by rw [ht]; exact hP, hD, hI, (fun _ => CA_done j0_71 (by rw [hn5]; omega) (by rw [hn5]; omega) htd), (fun q => absurd q (by decide)), (by first | assumption | omega), (by first | assumption | omega), (by first | assumption | omega), (by first | assumption | omega)⟩, hS.F ht⟩) hS.2.2 dX9_canAll_132
                      · skip
                        have c455 : ¬ (y454.toInt ≤ v4_71.toInt) := fun q => c455 ((z_le rfl rfl).mpr q)
                        refine lv_aload_n hx hb dX9_canAll_82 rfl (lv_at hl 1 rfl) ?_
                        refine va_get (D := g.1) (ci := 9) (v := .ref (ad 10)) (C := RX9) (T := TX9) (N := 47) hx hb hg inG9 hown hK hP 0 (zw_at (by omega) hs415) rfl 14 (by decide) (hg _ mm_972) (fun _ h9 => h9) rfl dX9_canAll_83 ?_
                        refine lv_iload_n hx hb dX9_canAll_86 rfl (lv_at hl 2 rfl) ?_
                        refine lv_iload hx hb dX9_canAll_87 (lv_at hl 0 rfl) ?_
                        refine zc_i (va_runS (As := [.int b, .int v4_71]) (rest := [.ref (ad 10)]) ⟨hx, hb, hml, hown, hg⟩ (k_X9_at l g ad me ct414 b v4_71 (by first | omega | decide) (by first | omega | decide) hI) (va_cwS 2 hg (z_gS mm_1159 mm_1160 mm_117 mm_1161) rfl rfl rfl (by decide +kernel) ⟨Nat.le_of_ble_eq_true rfl, Nat.le_of_ble_eq_true rfl⟩) (zR.pre [.int b, .int v4_71] hP hK hN) rfl rfl hl.1 rfl (lv_room (Nat.le_of_ble_eq_true rfl)) dX9_canAll_89 ⟨Nat.le_of_ble_eq_true rfl, Nat.le_of_ble_eq_true rfl⟩) (fun r457 hr457 => ?_)
                        have hr457_0 := hr457
                        have hr457_0 : r457.toInt = 8 * b.toInt + v4_71.toInt := hr457_0
                        obtain ⟨f459, hp460, hs458⟩ := a9_10 hI.1
                        refine va_zald hx hb hK hP 10 3 (zw_at (by omega) hs458) rfl (z_in rfl (by omega) (by omega)) dX9_canAll_92 ?_
                        refine lv_topi (fun y461 ey461 => ?_)
                        have hy461 := hp460 _ (z_clt (x := r457) rfl (by omega) (by omega))
                        rw [← ey461] at hy461
                        have hy461 : y461 = 0 ∨ y461 = 1 := hy461
                        have by461 := z_b01 hy461
                        have hlv : zar (ct 10) (8 * b.toInt.toNat + v4_71.toInt.toNat) = y461 := by rw [zar_of (hc10.symm.trans hs458), ey461, z_cl (x := r457) (k := 8 * b.toInt.toNat + v4_71.toInt.toNat) (by omega)]
                        refine lv_if_ne (tgt := 125) hx hb dX9_canAll_93 (by decide) (fun c462 => ?_) (fun c462 => ?_)
                        · skip
                          have c462 : ¬ (y461.toInt = 0) := fun q => c462 ((z_eq rfl (by decide : (0 : Int32).toInt = 0)).mpr q)
                          have hca2 := CA_skip j0_71 (by omega) (Or.inl (fun q => by unfold zlive at q; rw [hlv] at q; omega))
                          obtain ⟨x463, ex463⟩ : ∃ y : Int32, y = v4_71 + 1 := ⟨_, rfl⟩
                          have tx463 : x463.toInt = v4_71.toInt + 1 := by rw [ex463]; exact z_add rfl (by decide : (1 : Int32).toInt = 1) (by omega) (by omega)
                          refine lv_iinc (v := x463) (lv' := [(4, .int x463), (0, .ref (ad 0)), (1, .int b), (2, .int to), (3, .int pn)]) hx hb dX9_canAll_125 hl (k := 0) rfl (by rw [ex463]; rfl) (by decide) rfl (fun ls hl => ?_)
                          rw [← tx463] at hca2
                          refine lv_goto (tgt := 71) hx hb dX9_canAll_128 (by decide) ?_
                          exact ih71 x463 ct414 _ _ ls (by omega) (by first | assumption | omega | decide) (by first | assumption | omega | decide) (by first | assumption | omega | decide) (by first | assumption | omega | decide) (by first | assumption | omega | decide) (by first | assumption | omega | decide) hI hP hD hS (lv_sub hl [0, 1, 2, 3, 4] rfl)
                        · skip
                          have c462 : y461.toInt = 0 := (z_eq rfl (by decide : (0 : Int32).toInt = 0)).mp c462
                          have hlive : zlive (zar (ct 10)) b.toInt v4_71.toInt.toNat := by unfold zlive; rw [hlv]; omega
                          refine lv_iload hx hb dX9_canAll_96 (lv_at hl 0 rfl) ?_
                          refine lv_iload_n hx hb dX9_canAll_98 rfl (lv_at hl 3 rfl) ?_
                          refine lv_icmp_eq (tgt := 125) hx hb dX9_canAll_99 (by decide) (fun c464 => ?_) (fun c464 => ?_)
                          · skip
                            have c464 : v4_71.toInt = to.toInt := (z_eq rfl rfl).mp c464
                            have hca2 := CA_skip j0_71 (by omega) (Or.inr (by omega))
                            obtain ⟨x465, ex465⟩ : ∃ y : Int32, y = v4_71 + 1 := ⟨_, rfl⟩
                            have tx465 : x465.toInt = v4_71.toInt + 1 := by rw [ex465]; exact z_add rfl (by decide : (1 : Int32).toInt = 1) (by omega) (by omega)
                            refine lv_iinc (v := x465) (lv' := [(4, .int x465), (0, .ref (ad 0)), (1, .int b), (2, .int to), (3, .int pn)]) hx hb dX9_canAll_125 hl (k := 0) rfl (by rw [ex465]; rfl) (by decide) rfl (fun ls hl => ?_)
                            rw [← tx465] at hca2
                            refine lv_goto (tgt := 71) hx hb dX9_canAll_128 (by decide) ?_
                            exact ih71 x465 ct414 _ _ ls (by omega) (by first | assumption | omega | decide) (by first | assumption | omega | decide) (by first | assumption | omega | decide) (by first | assumption | omega | decide) (by first | assumption | omega | decide) (by first | assumption | omega | decide) hI hP hD hS (lv_sub hl [0, 1, 2, 3, 4] rfl)
                          · skip
                            have c464 : ¬ (v4_71.toInt = to.toInt) := fun q => c464 ((z_eq rfl rfl).mpr q)
                            refine lv_aload_n hx hb dX9_canAll_102 rfl (lv_at hl 1 rfl) ?_
                            refine lv_iload hx hb dX9_canAll_103 (lv_at hl 0 rfl) ?_
                            refine lv_iload_n hx hb dX9_canAll_105 rfl (lv_at hl 3 rfl) ?_
                            refine lv_iconst (v := (-1)) hx hb dX9_canAll_106 (by decide) ?_
                            refine lv_icmp_ne (tgt := 114) hx hb dX9_canAll_107 (by decide) (fun c466 => ?_) (fun c466 => ?_)
                            · skip
                              have c466 : ¬ (to.toInt = (-1)) := fun q => c466 ((z_eq rfl (by decide : ((-1) : Int32).toInt = (-1))).mpr q)
                              refine lv_iconst (v := 1) hx hb dX9_canAll_114 (by decide) ?_
                              refine lv_iload_n hx hb dX9_canAll_115 rfl (lv_at hl 4 rfl) ?_
                              refine lv_ishl hx hb dX9_canAll_116 ?_
                              refine lv_topi (fun x467 ex467 => ?_)
                              have tx467 := z_shl1 (y := pn) rfl (by omega) (k := 15) (by decide) (by omega)
                              rw [← ex467] at tx467
                              have htk : ztk to pn = x467 := by rw [ex467]; exact if_neg (by omega)
                              have hpr := CA_pre j0_71 (by omega) (by omega) htk
                              have k20 := hc20
                              have hFc := zw_free hD hS hA
                              refine va_calli (va_runV (As := [.int v4_71, .int x467]) (rest := []) ⟨hx, hb, hml, hown, hg⟩ (k_X9_findsOne l g _ ad me ct414 v4_71 x467 (by first | omega | decide) (by first | omega | decide) hI (by rw [hc20]; exact hpr.1) (hpr.2)) (cwV 2 hg (z_gV mm_1361 mm_1363 mm_90 mm_117 mm_1364) rfl rfl rfl (by decide +kernel) ⟨Nat.le_of_ble_eq_true rfl, Nat.le_of_ble_eq_true rfl⟩) ⟨(zA.pre [.ref (ad 0), .int v4_71, .int x467] hP hK hD hN).1, va_recv hK hP (ci := 9) (q0 := 0) rfl (zw_at (by omega) hs415), (zA.pre [.ref (ad 0), .int v4_71, .int x467] hP hK hD hN).2⟩ rfl rfl hl.1 rfl (lv_room (Nat.le_of_ble_eq_true rfl)) dX9_canAll_117 ⟨Nat.le_of_ble_eq_true rfl, Nat.le_of_ble_eq_true rfl⟩) hS (fun q _ h => hFc q h) hFc (fun r468 u476 t H1 locs ht hvm hr468 hB hz1 hk1 hS => ?_)
                              obtain ⟨ct469, hP1, hD1, hI, hk470, hk471, hk472, hk473, hk474, hk475⟩ := hB
                              rw [ht] at hP1
                              have hD := hD1.weaken (fun _ _ _ h => hFc _ h)
                              generalize H1 = H at hP1 hS ⊢
                              have hP := hP1
                              refine W.widen (k := 0) (n := 0) (Nat.le_refl _) (Nat.le_refl _) ?_
                              have hc0 : ct469 0 = ct 0 := hk472.trans hc0
                              have hc5 : ct469 5 = ct 5 := hk473.trans hc5
                              have hc10 : ct469 10 = ct 10 := hk474.trans hc10
                              have hc20 : ct469 20 = ct 20 := hk475.trans hc20
                              have hs477 : ct469 0 = .inr (9, [.int me, .ref (ad 1), .ref (ad 2), .ref (ad 3), .ref (ad 4), .int bks416, .int lks417, .int gos418, .int shn419, .ref (ad 5), .ref (ad 6), .ref (ad 7), .ref (ad 8), .ref (ad 9), .ref (ad 10), .ref (ad 11), .int tpd420, .int pl0421, .int ln0422, .int flt423, .int opn424, .int cmy425, .int wtg426, .int nm0427, .ref (ad 12), .ref (ad 13), .ref (ad 14), .ref (ad 15), .ref (ad 16), .ref (ad 17), .ref (ad 18), .ref (ad 19), .ref (ad 20), .ref (ad 21), .ref (ad 22), .ref (ad 23), .ref (ad 24), .ref (ad 25), .ref (ad 26), .ref (ad 27), .int mst428, .int sus429, .ref (ad 28), .ref (ad 29), .ref (ad 30), .ref (ad 31), .int cut430]) := hk472.trans hs415
                              have hs478 : ct469 5 = .inl (g.2 0, 4, .inl f452) := hk473.trans hs451
                              have hs479 : ct469 10 = .inl (g.2 3, 32, .inl f459) := hk474.trans hs458
                              rcases hr468 with hr468 | hr468
                              · skip
                                obtain ⟨rfl, h480⟩ := hr468
                                replace h480 : u476 = 1 := h480
                                have hk470 := hk470 h480
                                have hca2 := CA_next j0_71 (by omega) htk (by rw [← k20]; exact hk470.1) hk470.2 hlive (by omega)
                                refine lv_if_ne (tgt := 125) hx hb dX9_canAll_120 (by decide) (fun c481 => ?_) (fun c481 => ?_)
                                · skip
                                  obtain ⟨x482, ex482⟩ : ∃ y : Int32, y = v4_71 + 1 := ⟨_, rfl⟩
                                  have tx482 : x482.toInt = v4_71.toInt + 1 := by rw [ex482]; exact z_add rfl (by decide : (1 : Int32).toInt = 1) (by omega) (by omega)
                                  refine lv_iinc (v := x482) (lv' := [(4, .int x482), (0, .ref (ad 0)), (1, .int b), (2, .int to), (3, .int pn)]) hx hb dX9_canAll_125 hl (k := 0) rfl (by rw [ex482]; rfl) (by decide) rfl (fun ls hl => ?_)
                                  rw [← tx482] at hca2
                                  refine lv_goto (tgt := 71) hx hb dX9_canAll_128 (by decide) ?_
                                  exact ih71 x482 ct469 _ _ ls (by omega) (by first | assumption | omega | decide) (by first | assumption | omega | decide) (by first | assumption | omega | decide) (by first | assumption | omega | decide) (by first | assumption | omega | decide) (by first | assumption | omega | decide) hI hP hD hS (lv_sub hl [0, 1, 2, 3, 4] rfl)
                                · skip
                                  exact absurd c481 (by decide)
                              · skip
                                obtain ⟨rfl, h483⟩ := hr468
                                replace h483 : u476 = 0 := h483
                                have hk471 := hk471 h483
                                refine lv_if_ne (tgt := 125) hx hb dX9_canAll_120 (by decide) (fun c484 => ?_) (fun c484 => ?_)
                                · skip
                                  exact absurd c484 (by decide)
                                · skip
                                  refine lv_iconst (v := 0) hx hb dX9_canAll_123 (by decide) ?_
                                  have q485 : (0 : Int32).toInt = 0 := by decide
                                  exact W.zret (v := 0) hx hb hr rfl (fun t ht hW => ⟨⟨0, 0, rfl, by first | exact Or.inl ⟨rfl, rfl⟩ | exact Or.inr ⟨rfl, rfl⟩, ct469, by rw [ht]; exact hP, hD, hI, (fun q => absurd q (by decide)), (fun _ => CA_fail j0_71 (by omega) (by rw [hn5]; omega) (by rw [hn5]; omega) htk (by rw [← k20]; exact hk471) hlive (by omega)), (by first | assumption | omega), (by first | assumption | omega), (by first | assumption | omega), (by first | assumption | omega)⟩, hS.F ht⟩) hS.2.2 dX9_canAll_124
                            · skip
                              have c466 : to.toInt = (-1) := (z_eq rfl (by decide : ((-1) : Int32).toInt = (-1))).mp c466
                              exfalso
                              omega
                  have hca : CA (zar (ct 20)) (zar (ct376 23)) (zar (ct376 24)) (zar (ct 10)) me.toInt b.toInt to pn ((0 : Int32)).toInt := CA_start j1_47 (fun j hj => j0_47 j (by omega))
                  exact loop71 ((8 - (0 : Int32).toInt : Int).toNat + 1) (0 : Int32) ct376 _ _ ls (by omega) (by first | assumption | omega | decide) (by first | assumption | omega | decide) (by first | assumption | omega | decide) (by first | assumption | omega | decide) (by first | assumption | omega | decide) (by first | assumption | omega | decide) hI hP hD hS (lv_sub hl [0, 1, 2, 3, 4] rfl)
                · skip
                  have c377 : ¬ (8 ≤ v4_47.toInt) := fun q => c377 ((z_le (by decide : (8 : Int32).toInt = 8) rfl).mpr q)
                  refine lv_aload_n hx hb dX9_canAll_54 rfl (lv_at hl 1 rfl) ?_
                  obtain ⟨bks487, lks488, gos489, shn490, tpd491, pl0492, ln0493, flt494, opn495, cmy496, wtg497, nm0498, mst499, sus500, cut501, h502, h503, h504, h505, h506, h507, h508, h509, h510, h511, h512, h513, h514, h515, h516, h517, h518, h519, h520, h521, hs486⟩ := a9_0 hI.1
                  refine va_get (D := g.1) (ci := 9) (v := .ref (ad 23)) (C := RX9) (T := TX9) (N := 47) hx hb hg inG9 hown hK hP 0 (zw_at (by omega) hs486) rfl 35 (by decide) (hg _ mm_993) (fun _ h9 => h9) rfl dX9_canAll_55 ?_
                  refine lv_iload hx hb dX9_canAll_58 (lv_at hl 0 rfl) ?_
                  refine lv_iconst (v := (-1)) hx hb dX9_canAll_60 (by decide) ?_
                  obtain ⟨f523, hp524, hs522⟩ := a9_23 hI.1
                  refine va_iast hx hb hK hP hD hS 23 0 (zw_at (by omega) hs522) rfl (z_in rfl (by omega) (by omega)) dX9_canAll_61 (fun H locs hP hD hS => ?_)
                  have hp526 : ∀ j : Nat, j < 8 → (fun x : Int32 => (-1) ≤ x.toInt ∧ x.toInt ≤ 15) ((upd f523 (Int32.toNatClampNeg v4_47) (-1)) j) := fun j hj => by
                    unfold upd
                    by_cases q : j = Int32.toNatClampNeg v4_47
                    · rw [if_pos q]
                      have qv : ((-1) : Int32).toInt = -1 := by decide
                      exact (show (-1) ≤ ((-1) : Int32).toInt ∧ ((-1) : Int32).toInt ≤ 15 from (by first | omega | decide))
                    · rw [if_neg q]; exact hp524 j hj
                  have hP : zP g ((zw 32 ad ct376).set 23 (ad 23, .inl (g.2 0, 8, .inl (upd f523 (Int32.toNatClampNeg v4_47) (-1))))) H := hP
                  have hD : va_D A ((zw 32 ad ct376).set 23 (ad 23, .inl (g.2 0, 8, .inl (upd f523 (Int32.toNatClampNeg v4_47) (-1))))) := hD
                  rw [zw_set (by omega)] at hP hD
                  obtain ⟨ct527, ec528⟩ : ∃ z : Nat → va_E, z = va_up ct376 23 (.inl (g.2 0, 8, .inl (upd f523 (Int32.toNatClampNeg v4_47) (-1)))) := ⟨_, rfl⟩
                  rw [← ec528] at hP hD
                  have hI : IR g ad me ct527 := by rw [ec528]; exact upR hI (by decide) (i9_23 ⟨_, hp526, rfl⟩)
                  have hc0 : ct527 0 = ct 0 := by rw [ec528]; exact (va_up_ne _ _ (by omega)).trans hc0
                  have hc5 : ct527 5 = ct 5 := by rw [ec528]; exact (va_up_ne _ _ (by omega)).trans hc5
                  have hc10 : ct527 10 = ct 10 := by rw [ec528]; exact (va_up_ne _ _ (by omega)).trans hc10
                  have hc20 : ct527 20 = ct 20 := by rw [ec528]; exact (va_up_ne _ _ (by omega)).trans hc20
                  have hs529 : ct527 0 = .inr (9, [.int me, .ref (ad 1), .ref (ad 2), .ref (ad 3), .ref (ad 4), .int bks487, .int lks488, .int gos489, .int shn490, .ref (ad 5), .ref (ad 6), .ref (ad 7), .ref (ad 8), .ref (ad 9), .ref (ad 10), .ref (ad 11), .int tpd491, .int pl0492, .int ln0493, .int flt494, .int opn495, .int cmy496, .int wtg497, .int nm0498, .ref (ad 12), .ref (ad 13), .ref (ad 14), .ref (ad 15), .ref (ad 16), .ref (ad 17), .ref (ad 18), .ref (ad 19), .ref (ad 20), .ref (ad 21), .ref (ad 22), .ref (ad 23), .ref (ad 24), .ref (ad 25), .ref (ad 26), .ref (ad 27), .int mst499, .int sus500, .ref (ad 28), .ref (ad 29), .ref (ad 30), .ref (ad 31), .int cut501]) := by rw [ec528, va_up_ne _ _ (by omega)]; exact hs486
                  have hs530 : ct527 23 = .inl (g.2 0, 8, .inl (upd f523 (Int32.toNatClampNeg v4_47) (-1))) := by rw [ec528]; exact va_up_self _ _ _
                  have hfl : ∀ j : Nat, (j : Int) < v4_47.toInt + 1 → (zar (ct527 23) j).toInt = -1 := fun j hj => by
                    rw [zar_of hs530]
                    by_cases q : (j : Int) = v4_47.toInt
                    · rw [z_cl (x := v4_47) (k := j) (by omega), upd_sm]
                      decide
                    · rw [upd_other (by have := z_clI (x := v4_47) (by omega); omega), ← zar_of hs522]
                      exact j0_47 j (by omega)
                  have hg17 : ∀ j : Nat, (j : Int) < 16 → (zar (ct527 24) j).toInt = -1 := by
                    rw [show ct527 24 = ct376 24 from by rw [ec528]; exact va_up_ne _ _ (by omega)]
                    exact j1_47
                  obtain ⟨x531, ex531⟩ : ∃ y : Int32, y = v4_47 + 1 := ⟨_, rfl⟩
                  have tx531 : x531.toInt = v4_47.toInt + 1 := by rw [ex531]; exact z_add rfl (by decide : (1 : Int32).toInt = 1) (by omega) (by omega)
                  refine lv_iinc (v := x531) (lv' := [(4, .int x531), (0, .ref (ad 0)), (1, .int b), (2, .int to), (3, .int pn)]) hx hb dX9_canAll_62 hl (k := 0) rfl (by rw [ex531]; rfl) (by decide) rfl (fun ls hl => ?_)
                  have hfl2 : ∀ j : Nat, (j : Int) < x531.toInt → (zar (ct527 23) j).toInt = -1 := fun j hj => hfl j (by omega)
                  refine lv_goto (tgt := 47) hx hb dX9_canAll_65 (by decide) ?_
                  exact ih47 x531 ct527 _ _ ls (by omega) (by first | assumption | omega | decide) (by first | assumption | omega | decide) (by first | assumption | omega | decide) (by first | assumption | omega | decide) (by first | assumption | omega | decide) (by first | assumption | omega | decide) (by first | assumption | omega | decide) hI hP hD hS (lv_sub hl [0, 1, 2, 3, 4] rfl)
            have hf0 : ∀ j : Nat, (j : Int) < ((0 : Int32)).toInt → (zar (ct338 23) j).toInt = -1 := fun j hj => by omega
            have hg16 : ∀ j : Nat, (j : Int) < 16 → (zar (ct338 24) j).toInt = -1 := fun j hj => j0_23 j (by omega)
            exact loop47 ((8 - (0 : Int32).toInt : Int).toNat + 1) (0 : Int32) ct338 _ _ ls (by omega) (by first | assumption | omega | decide) (by first | assumption | omega | decide) (by first | assumption | omega | decide) (by first | assumption | omega | decide) (by first | assumption | omega | decide) (by first | assumption | omega | decide) (by first | assumption | omega | decide) hI hP hD hS (lv_sub hl [0, 1, 2, 3, 4] rfl)
          · skip
            have c339 : ¬ (16 ≤ v4_23.toInt) := fun q => c339 ((z_le (by decide : (16 : Int32).toInt = 16) rfl).mpr q)
            refine lv_aload_n hx hb dX9_canAll_30 rfl (lv_at hl 1 rfl) ?_
            obtain ⟨bks533, lks534, gos535, shn536, tpd537, pl0538, ln0539, flt540, opn541, cmy542, wtg543, nm0544, mst545, sus546, cut547, h548, h549, h550, h551, h552, h553, h554, h555, h556, h557, h558, h559, h560, h561, h562, h563, h564, h565, h566, h567, hs532⟩ := a9_0 hI.1
            refine va_get (D := g.1) (ci := 9) (v := .ref (ad 24)) (C := RX9) (T := TX9) (N := 47) hx hb hg inG9 hown hK hP 0 (zw_at (by omega) hs532) rfl 36 (by decide) (hg _ mm_994) (fun _ h9 => h9) rfl dX9_canAll_31 ?_
            refine lv_iload hx hb dX9_canAll_34 (lv_at hl 0 rfl) ?_
            refine lv_iconst (v := (-1)) hx hb dX9_canAll_36 (by decide) ?_
            obtain ⟨f569, hp570, hs568⟩ := a9_24 hI.1
            refine va_iast hx hb hK hP hD hS 24 0 (zw_at (by omega) hs568) rfl (z_in rfl (by omega) (by omega)) dX9_canAll_37 (fun H locs hP hD hS => ?_)
            have hp572 : ∀ j : Nat, j < 16 → (fun x : Int32 => (-1) ≤ x.toInt ∧ x.toInt ≤ 7) ((upd f569 (Int32.toNatClampNeg v4_23) (-1)) j) := fun j hj => by
              unfold upd
              by_cases q : j = Int32.toNatClampNeg v4_23
              · rw [if_pos q]
                have qv : ((-1) : Int32).toInt = -1 := by decide
                exact (show (-1) ≤ ((-1) : Int32).toInt ∧ ((-1) : Int32).toInt ≤ 7 from (by first | omega | decide))
              · rw [if_neg q]; exact hp570 j hj
            have hP : zP g ((zw 32 ad ct338).set 24 (ad 24, .inl (g.2 0, 16, .inl (upd f569 (Int32.toNatClampNeg v4_23) (-1))))) H := hP
            have hD : va_D A ((zw 32 ad ct338).set 24 (ad 24, .inl (g.2 0, 16, .inl (upd f569 (Int32.toNatClampNeg v4_23) (-1))))) := hD
            rw [zw_set (by omega)] at hP hD
            obtain ⟨ct573, ec574⟩ : ∃ z : Nat → va_E, z = va_up ct338 24 (.inl (g.2 0, 16, .inl (upd f569 (Int32.toNatClampNeg v4_23) (-1)))) := ⟨_, rfl⟩
            rw [← ec574] at hP hD
            have hI : IR g ad me ct573 := by rw [ec574]; exact upR hI (by decide) (i9_24 ⟨_, hp572, rfl⟩)
            have hc0 : ct573 0 = ct 0 := by rw [ec574]; exact (va_up_ne _ _ (by omega)).trans hc0
            have hc5 : ct573 5 = ct 5 := by rw [ec574]; exact (va_up_ne _ _ (by omega)).trans hc5
            have hc10 : ct573 10 = ct 10 := by rw [ec574]; exact (va_up_ne _ _ (by omega)).trans hc10
            have hc20 : ct573 20 = ct 20 := by rw [ec574]; exact (va_up_ne _ _ (by omega)).trans hc20
            have hs575 : ct573 0 = .inr (9, [.int me, .ref (ad 1), .ref (ad 2), .ref (ad 3), .ref (ad 4), .int bks533, .int lks534, .int gos535, .int shn536, .ref (ad 5), .ref (ad 6), .ref (ad 7), .ref (ad 8), .ref (ad 9), .ref (ad 10), .ref (ad 11), .int tpd537, .int pl0538, .int ln0539, .int flt540, .int opn541, .int cmy542, .int wtg543, .int nm0544, .ref (ad 12), .ref (ad 13), .ref (ad 14), .ref (ad 15), .ref (ad 16), .ref (ad 17), .ref (ad 18), .ref (ad 19), .ref (ad 20), .ref (ad 21), .ref (ad 22), .ref (ad 23), .ref (ad 24), .ref (ad 25), .ref (ad 26), .ref (ad 27), .int mst545, .int sus546, .ref (ad 28), .ref (ad 29), .ref (ad 30), .ref (ad 31), .int cut547]) := by rw [ec574, va_up_ne _ _ (by omega)]; exact hs532
            have hs576 : ct573 24 = .inl (g.2 0, 16, .inl (upd f569 (Int32.toNatClampNeg v4_23) (-1))) := by rw [ec574]; exact va_up_self _ _ _
            have hfl : ∀ j : Nat, (j : Int) < v4_23.toInt + 1 → (zar (ct573 24) j).toInt = -1 := fun j hj => by
              rw [zar_of hs576]
              by_cases q : (j : Int) = v4_23.toInt
              · rw [z_cl (x := v4_23) (k := j) (by omega), upd_sm]
                decide
              · rw [upd_other (by have := z_clI (x := v4_23) (by omega); omega), ← zar_of hs568]
                exact j0_23 j (by omega)
            obtain ⟨x577, ex577⟩ : ∃ y : Int32, y = v4_23 + 1 := ⟨_, rfl⟩
            have tx577 : x577.toInt = v4_23.toInt + 1 := by rw [ex577]; exact z_add rfl (by decide : (1 : Int32).toInt = 1) (by omega) (by omega)
            refine lv_iinc (v := x577) (lv' := [(4, .int x577), (0, .ref (ad 0)), (1, .int b), (2, .int to), (3, .int pn)]) hx hb dX9_canAll_38 hl (k := 0) rfl (by rw [ex577]; rfl) (by decide) rfl (fun ls hl => ?_)
            have hfl2 : ∀ j : Nat, (j : Int) < x577.toInt → (zar (ct573 24) j).toInt = -1 := fun j hj => hfl j (by omega)
            refine lv_goto (tgt := 23) hx hb dX9_canAll_41 (by decide) ?_
            exact ih23 x577 ct573 _ _ ls (by omega) (by first | assumption | omega | decide) (by first | assumption | omega | decide) (by first | assumption | omega | decide) (by first | assumption | omega | decide) (by first | assumption | omega | decide) (by first | assumption | omega | decide) hI hP hD hS (lv_sub hl [0, 1, 2, 3, 4] rfl)
      have hf0 : ∀ j : Nat, (j : Int) < ((0 : Int32)).toInt → (zar (ct 24) j).toInt = -1 := fun j hj => by omega
      exact loop23 ((16 - (0 : Int32).toInt : Int).toNat + 1) (0 : Int32) ct _ _ ls (by omega) (by first | assumption | omega | decide) (by first | assumption | omega | decide) (by first | assumption | omega | decide) (by first | assumption | omega | decide) (by first | assumption | omega | decide) (by first | assumption | omega | decide) hI hP hD hS (lv_sub hl [0, 1, 2, 3, 4] rfl)
    · skip
      have c337 : x336.toInt = 0 := (z_eq rfl (by decide : (0 : Int32).toInt = 0)).mp c337
      have hnb : ¬ zb (zar (ct 20) to.toInt.toNat) pn.toInt.toNat := by
        rw [ey2]
        rcases hgb with ⟨g1, g2⟩ | ⟨g1, g2⟩
        · omega
        · exact g2
      refine lv_iconst (v := 0) hx hb dX9_canAll_18 (by decide) ?_
      have q578 : (0 : Int32).toInt = 0 := by decide
      exact W.zret (v := 0) hx hb hr rfl (fun t ht hW => ⟨⟨0, 0, rfl, by first | exact Or.inl ⟨rfl, rfl⟩ | exact Or.inr ⟨rfl, rfl⟩, ct, by rw [ht]; exact hP, hD, hI, (fun q => absurd q (by decide)), (fun _ => MTx_not (by omega) hnb), (by first | assumption | omega), (by first | assumption | omega), (by first | assumption | omega), (by first | assumption | omega)⟩, hS.F ht⟩) hS.2.2 dX9_canAll_19

set_option maxHeartbeats 4000000 in
set_option maxRecDepth 100000 in
theorem k_X9_maybe (l : Launch) (g : zG) (sz : Nat) (ad : Nat → Nat) (me : Int32) (ct : Nat → va_E) (b : Int32) (i : Int32) (hl_b : 0 ≤ b.toInt ∧ b.toInt ≤ 3) (hl_i : 0 ≤ i.toInt ∧ i.toInt ≤ 7) (hI : IR g ad me ct) : Met l yX9_maybe (zW yX9_maybe cX9_maybe 5 (some .int)) ({ frames := 3, cells := 0, slots := 0, locals := 76 }) (va_Pc [.ref (ad 0), .int b, .int i] (zA g (zw 32 ad ct) sz)) (va_Qi (fun (r : Int32) (_ : Unit) => ((0 ≤ r.toInt) ∧ (r.toInt ≤ 65535))) (fun _ t => ∃ ct2 : Nat → va_E, zP g (zw 32 ad ct2) t.heap ∧ va_D (va_A (zw 32 ad ct) sz) (zw 32 ad ct2) ∧ IR g ad me ct2 ∧ (ct2 0 = ct 0) ∧ (ct2 5 = ct 5) ∧ (ct2 10 = ct 10) ∧ (ct2 20 = ct 20)) (va_A (zw 32 ad ct) sz)) 0 0 (va_A (zw 32 ad ct) sz) := by
  refine Met.ofW (cc := cX9_maybe) (maxL := 5) (ret := (some .int)) (by decide) rfl ?_
  intro p e s m args below meth c s₁ B hml hv
  obtain ⟨rfl, hsz, hP, hK, hD0, hN⟩ := hv
  have hx := B.exec
  have hb := B.bytes
  have hr := B.returns
  have hg := zW.law (atoms_spec (ws := (zW yX9_maybe cX9_maybe 5 (some .int))) B.pre)
  have hown : s.vm.findClass RX9 = some m.cls := findClass_of_methodNamed B.named
  have hlocks := B.notSynchronized
  have hpe0 := hI.1.1
  subst hsz
  have hD := hD0.self (sz := s.heap.size)
  generalize hAe : va_A (zw 32 ad ct) s.heap.size = A at hD ⊢
  have hA : ∀ q : Nat, s.heap.size ≤ q → A q := fun q h => by rw [← hAe]; exact Or.inr h
  have hS : va_S A s.heap s.heap [] := va_S.rf
  have hl := lv_entry ([.ref (ad 0), .int b, .int i]) (n := 5) (Nat.le_of_ble_eq_true rfl)
  rw [lg_entry_eq]
  generalize (lg_sl ([.ref (ad 0), .int b, .int i]) ++ List.replicate (5 - (lg_sl ([.ref (ad 0), .int b, .int i])).length) Slot.unset).toArray = ls at hl ⊢
  have hl : lv_has ls 5 [(0, .ref (ad 0)), (1, .int b), (2, .int i)] := hl
  have hc0 : ct 0 = ct 0 := rfl
  have hc5 : ct 5 = ct 5 := rfl
  have hc10 : ct 10 = ct 10 := rfl
  have hc20 : ct 20 = ct 20 := rfl
  refine lv_iconst (v := 0) hx hb dX9_maybe_0 (by decide) ?_
  refine lv_istore_n (lv' := [(3, .int 0), (0, .ref (ad 0)), (1, .int b), (2, .int i)]) hx hb dX9_maybe_1 rfl hl (by decide) rfl (fun ls hl => ?_)
  refine lv_iconst (v := 0) hx hb dX9_maybe_2 (by decide) ?_
  refine lv_istore (lv' := [(4, .int 0), (3, .int 0), (0, .ref (ad 0)), (1, .int b), (2, .int i)]) hx hb dX9_maybe_3 hl (by decide) rfl (fun ls hl => ?_)
  have loop5 : ∀ (n5 : Nat) (v4_5 : Int32) (v3_5 : Int32) (ct1 : Nat → va_E) (H : Heap) (locs : List Loc) (ls : Array Slot), ((16 - v4_5.toInt : Int).toNat < n5) → (0 ≤ v4_5.toInt ∧ v4_5.toInt ≤ 16) → (0 ≤ v3_5.toInt ∧ v3_5.toInt ≤ 65535) → (ct1 0 = ct 0) → (ct1 5 = ct 5) → (ct1 10 = ct 10) → (ct1 20 = ct 20) → (IR g ad me ct1) → zP g (zw 32 ad ct1) H → va_D A (zw 32 ad ct1) → va_S A s.heap H locs → lv_has ls 5 [(4, .int v4_5), (3, .int v3_5), (0, .ref (ad 0)), (1, .int b), (2, .int i)] → W p l e (headSpec (zW yX9_maybe cX9_maybe 5 (some .int)) ({ frames := 3, cells := 0, slots := 0, locals := 76 })).room s m ([.ref (ad 0), .int b, .int i] : List Value).toArray below meth c H locs 0 0 (MQ below (va_Qi (fun (r : Int32) (_ : Unit) => ((0 ≤ r.toInt) ∧ (r.toInt ≤ 65535))) (fun _ t => ∃ ct2 : Nat → va_E, zP g (zw 32 ad ct2) t.heap ∧ va_D A (zw 32 ad ct2) ∧ IR g ad me ct2 ∧ (ct2 0 = ct 0) ∧ (ct2 5 = ct 5) ∧ (ct2 10 = ct 10) ∧ (ct2 20 = ct 20)) A) ([.ref (ad 0), .int b, .int i] : List Value).toArray s 0 0 A) (F0 m 5 ls []) := by
    intro n5
    induction n5 with
    | zero =>
      intro v4_5 v3_5 ct1 H locs ls hn5 b4_5 b3_5 hc0 hc5 hc10 hc20 hI hP hD hS hl
      exact absurd hn5 (Nat.not_lt_zero _)
    | succ n5 ih5 =>
      intro v4_5 v3_5 ct1 H locs ls hn5 b4_5 b3_5 hc0 hc5 hc10 hc20 hI hP hD hS hl
      refine lv_iload hx hb dX9_maybe_5 (lv_at hl 0 rfl) ?_
      refine lv_aload_n hx hb dX9_maybe_7 rfl (lv_at hl 2 rfl) ?_
      obtain ⟨bks3, lks4, gos5, shn6, tpd7, pl08, ln09, flt10, opn11, cmy12, wtg13, nm014, mst15, sus16, cut17, h18, h19, h20, h21, h22, h23, h24, h25, h26, h27, h28, h29, h30, h31, h32, h33, h34, h35, h36, h37, hs2⟩ := a9_0 hI.1
      refine va_get (D := g.1) (ci := 9) (v := .int me) (C := RX9) (T := TX9) (N := 47) hx hb hg inG9 hown hK hP 0 (zw_at (by omega) hs2) rfl 0 (by decide) (hg _ mm_958) (fun _ h9 => h9) rfl dX9_maybe_8 ?_
      refine lv_icmp_ge (tgt := 38) hx hb dX9_maybe_11 (by decide) (fun c38 => ?_) (fun c38 => ?_)
      · skip
        have c38 : me.toInt ≤ v4_5.toInt := (z_le rfl rfl).mp c38
        refine lv_iload_n hx hb dX9_maybe_38 rfl (lv_at hl 1 rfl) ?_
        exact W.iret (v := v3_5) hx hb hr (fun t ht hW => ⟨⟨v3_5, (), rfl, ⟨by first | omega | decide, by first | omega | decide⟩, ct1, by rw [ht]; exact hP, hD, hI, (by first | assumption | omega), (by first | assumption | omega), (by first | assumption | omega), (by first | assumption | omega)⟩, hS.F ht⟩) hS.2.2 dX9_maybe_39
      · skip
        have c38 : ¬ (me.toInt ≤ v4_5.toInt) := fun q => c38 ((z_le rfl rfl).mpr q)
        refine lv_aload_n hx hb dX9_maybe_14 rfl (lv_at hl 2 rfl) ?_
        refine lv_iload_n hx hb dX9_maybe_15 rfl (lv_at hl 3 rfl) ?_
        refine lv_iload_n hx hb dX9_maybe_16 rfl (lv_at hl 4 rfl) ?_
        refine lv_iload hx hb dX9_maybe_17 (lv_at hl 0 rfl) ?_
        have hFc := zw_free hD hS hA
        refine va_calli (va_runV (As := [.int b, .int i, .int v4_5]) (rest := []) ⟨hx, hb, hml, hown, hg⟩ (k_X9_canAll l g _ ad me ct1 b i v4_5 (by first | omega | decide) (by first | omega | decide) (by first | omega | decide) hI) (cwV 3 hg (z_gV mm_1357 mm_1359 mm_89 mm_117 mm_1360) rfl rfl rfl (by decide +kernel) ⟨Nat.le_of_ble_eq_true rfl, Nat.le_of_ble_eq_true rfl⟩) ⟨(zA.pre [.ref (ad 0), .int b, .int i, .int v4_5] hP hK hD hN).1, va_recv hK hP (ci := 9) (q0 := 0) rfl (zw_at (by omega) hs2), (zA.pre [.ref (ad 0), .int b, .int i, .int v4_5] hP hK hD hN).2⟩ rfl rfl hl.1 rfl (lv_room (Nat.le_of_ble_eq_true rfl)) dX9_maybe_19 ⟨Nat.le_of_ble_eq_true rfl, Nat.le_of_ble_eq_true rfl⟩) hS (fun q _ h => hFc q h) hFc (fun r39 u47 t H1 locs ht hvm hr39 hB hz1 hk1 hS => ?_)
        obtain ⟨ct40, hP1, hD1, hI, hk41, hk42, hk43, hk44, hk45, hk46⟩ := hB
        rw [ht] at hP1
        have hD := hD1.weaken (fun _ _ _ h => hFc _ h)
        generalize H1 = H at hP1 hS ⊢
        have hP := hP1
        refine W.widen (k := 0) (n := 0) (Nat.le_refl _) (Nat.le_refl _) ?_
        have hc0 : ct40 0 = ct 0 := hk43.trans hc0
        have hc5 : ct40 5 = ct 5 := hk44.trans hc5
        have hc10 : ct40 10 = ct 10 := hk45.trans hc10
        have hc20 : ct40 20 = ct 20 := hk46.trans hc20
        have hs48 : ct40 0 = .inr (9, [.int me, .ref (ad 1), .ref (ad 2), .ref (ad 3), .ref (ad 4), .int bks3, .int lks4, .int gos5, .int shn6, .ref (ad 5), .ref (ad 6), .ref (ad 7), .ref (ad 8), .ref (ad 9), .ref (ad 10), .ref (ad 11), .int tpd7, .int pl08, .int ln09, .int flt10, .int opn11, .int cmy12, .int wtg13, .int nm014, .ref (ad 12), .ref (ad 13), .ref (ad 14), .ref (ad 15), .ref (ad 16), .ref (ad 17), .ref (ad 18), .ref (ad 19), .ref (ad 20), .ref (ad 21), .ref (ad 22), .ref (ad 23), .ref (ad 24), .ref (ad 25), .ref (ad 26), .ref (ad 27), .int mst15, .int sus16, .ref (ad 28), .ref (ad 29), .ref (ad 30), .ref (ad 31), .int cut17]) := hk43.trans hs2
        rcases hr39 with hr39 | hr39
        · skip
          obtain ⟨rfl, h49⟩ := hr39
          replace h49 : u47 = 1 := h49
          have hk41 := hk41 h49
          refine lv_if_eq (tgt := 32) hx hb dX9_maybe_22 (by decide) (fun c50 => ?_) (fun c50 => ?_)
          · skip
            exact absurd c50 (by decide)
          · skip
            refine lv_iload_n hx hb dX9_maybe_25 rfl (lv_at hl 1 rfl) ?_
            refine lv_iconst (v := 1) hx hb dX9_maybe_26 (by decide) ?_
            refine lv_iload hx hb dX9_maybe_27 (lv_at hl 0 rfl) ?_
            refine lv_ishl hx hb dX9_maybe_29 ?_
            refine lv_topi (fun x51 ex51 => ?_)
            have tx51 := z_shl1 (y := v4_5) rfl (by omega) (k := 15) (by decide) (by omega)
            rw [← ex51] at tx51
            refine lv_ior hx hb dX9_maybe_30 ?_
            refine lv_topi (fun x52 ex52 => ?_)
            have tx52 := z_or (x := v3_5) (y := x51) rfl rfl (k := 16) (N := 65536) (by decide) (by decide) (by omega) (by omega) (by omega) (by omega)
            rw [← ex52] at tx52
            refine lv_istore_n (lv' := [(3, .int x52), (4, .int v4_5), (0, .ref (ad 0)), (1, .int b), (2, .int i)]) hx hb dX9_maybe_31 rfl hl (by decide) rfl (fun ls hl => ?_)
            obtain ⟨x53, ex53⟩ : ∃ y : Int32, y = v4_5 + 1 := ⟨_, rfl⟩
            have tx53 : x53.toInt = v4_5.toInt + 1 := by rw [ex53]; exact z_add rfl (by decide : (1 : Int32).toInt = 1) (by omega) (by omega)
            refine lv_iinc (v := x53) (lv' := [(4, .int x53), (3, .int x52), (0, .ref (ad 0)), (1, .int b), (2, .int i)]) hx hb dX9_maybe_32 hl (k := 1) rfl (by rw [ex53]; rfl) (by decide) rfl (fun ls hl => ?_)
            refine lv_goto (tgt := 5) hx hb dX9_maybe_35 (by decide) ?_
            exact ih5 x53 x52 ct40 _ _ ls (by omega) (by first | assumption | omega | decide) (by first | assumption | omega | decide) (by first | assumption | omega | decide) (by first | assumption | omega | decide) (by first | assumption | omega | decide) (by first | assumption | omega | decide) hI hP hD hS (lv_sub hl [0, 1, 2, 3, 4] rfl)
        · skip
          obtain ⟨rfl, h54⟩ := hr39
          replace h54 : u47 = 0 := h54
          have hk42 := hk42 h54
          refine lv_if_eq (tgt := 32) hx hb dX9_maybe_22 (by decide) (fun c55 => ?_) (fun c55 => ?_)
          · skip
            obtain ⟨x56, ex56⟩ : ∃ y : Int32, y = v4_5 + 1 := ⟨_, rfl⟩
            have tx56 : x56.toInt = v4_5.toInt + 1 := by rw [ex56]; exact z_add rfl (by decide : (1 : Int32).toInt = 1) (by omega) (by omega)
            refine lv_iinc (v := x56) (lv' := [(4, .int x56), (3, .int v3_5), (0, .ref (ad 0)), (1, .int b), (2, .int i)]) hx hb dX9_maybe_32 hl (k := 0) rfl (by rw [ex56]; rfl) (by decide) rfl (fun ls hl => ?_)
            refine lv_goto (tgt := 5) hx hb dX9_maybe_35 (by decide) ?_
            exact ih5 x56 v3_5 ct40 _ _ ls (by omega) (by first | assumption | omega | decide) (by first | assumption | omega | decide) (by first | assumption | omega | decide) (by first | assumption | omega | decide) (by first | assumption | omega | decide) (by first | assumption | omega | decide) hI hP hD hS (lv_sub hl [0, 1, 2, 3, 4] rfl)
          · skip
            exact absurd c55 (by decide)
  exact loop5 ((16 - (0 : Int32).toInt : Int).toNat + 1) (0 : Int32) (0 : Int32) ct _ _ ls (by omega) (by first | assumption | omega | decide) (by first | assumption | omega | decide) (by first | assumption | omega | decide) (by first | assumption | omega | decide) (by first | assumption | omega | decide) (by first | assumption | omega | decide) hI hP hD hS (lv_sub hl [0, 1, 2, 3, 4] rfl)

set_option maxHeartbeats 4000000 in
set_option maxRecDepth 100000 in
theorem k_X9_mustBe (l : Launch) (g : zG) (sz : Nat) (ad : Nat → Nat) (me : Int32) (ct : Nat → va_E) (b : Int32) (i : Int32) (p0 : Int32) (kn : Int32) (hI : IR g ad me ct) : Met l yX9_mustBe (zW yX9_mustBe cX9_mustBe 5 (some .int)) ({ frames := 6, cells := 0, slots := 0, locals := 148 }) (va_Pc [.ref (ad 0), .int b, .int i, .int p0, .int kn] (zA g (zw 32 ad ct) sz)) (va_Qi (fun (r : Int32) (_ : Unit) => (True)) (fun _ t => ∃ ct2 : Nat → va_E, zP g (zw 32 ad ct2) t.heap ∧ va_D (va_A (zw 32 ad ct) sz) (zw 32 ad ct2) ∧ IR g ad me ct2) (va_A (zw 32 ad ct) sz)) 0 0 (va_A (zw 32 ad ct) sz) := by
  refine Met.ofW (cc := cX9_mustBe) (maxL := 5) (ret := (some .int)) (by decide) rfl ?_
  intro p e s m args below meth c s₁ B hml hv
  obtain ⟨rfl, hsz, hP, hK, hD0, hN⟩ := hv
  have hx := B.exec
  have hb := B.bytes
  have hr := B.returns
  have hg := zW.law (atoms_spec (ws := (zW yX9_mustBe cX9_mustBe 5 (some .int))) B.pre)
  have hown : s.vm.findClass RX9 = some m.cls := findClass_of_methodNamed B.named
  have hlocks := B.notSynchronized
  have hpe0 := hI.1.1
  subst hsz
  have hD := hD0.self (sz := s.heap.size)
  generalize hAe : va_A (zw 32 ad ct) s.heap.size = A at hD ⊢
  have hA : ∀ q : Nat, s.heap.size ≤ q → A q := fun q h => by rw [← hAe]; exact Or.inr h
  have hS : va_S A s.heap s.heap [] := va_S.rf
  have hl := lv_entry ([.ref (ad 0), .int b, .int i, .int p0, .int kn]) (n := 5) (Nat.le_of_ble_eq_true rfl)
  rw [lg_entry_eq]
  generalize (lg_sl ([.ref (ad 0), .int b, .int i, .int p0, .int kn]) ++ List.replicate (5 - (lg_sl ([.ref (ad 0), .int b, .int i, .int p0, .int kn])).length) Slot.unset).toArray = ls at hl ⊢
  have hl : lv_has ls 5 [(0, .ref (ad 0)), (1, .int b), (2, .int i), (3, .int p0), (4, .int kn)] := hl
  have rg_b := z_rng b
  have rg_i := z_rng i
  have rg_p0 := z_rng p0
  have rg_kn := z_rng kn
  refine lv_aload_n hx hb dX9_mustBe_0 rfl (lv_at hl 0 rfl) ?_
  refine lv_iload_n hx hb dX9_mustBe_1 rfl (lv_at hl 1 rfl) ?_
  refine lv_iload_n hx hb dX9_mustBe_2 rfl (lv_at hl 2 rfl) ?_
  refine lv_iload_n hx hb dX9_mustBe_3 rfl (lv_at hl 3 rfl) ?_
  refine lv_iload hx hb dX9_mustBe_4 (lv_at hl 4 rfl) ?_
  obtain ⟨bks2, lks3, gos4, shn5, tpd6, pl07, ln08, flt9, opn10, cmy11, wtg12, nm013, mst14, sus15, cut16, h17, h18, h19, h20, h21, h22, h23, h24, h25, h26, h27, h28, h29, h30, h31, h32, h33, h34, h35, h36, hs1⟩ := a9_0 hI.1
  refine zc_i (va_runV (As := [.int b, .int i, .int p0, .int kn]) (rest := []) ⟨hx, hb, hml, hown, hg⟩ (k_X9_isAskedN l g ad me ct b i p0 kn hI) (cwV 4 hg (z_gV mm_1345 mm_1347 mm_88 mm_117 mm_1348) rfl rfl rfl (by decide +kernel) ⟨Nat.le_of_ble_eq_true rfl, Nat.le_of_ble_eq_true rfl⟩) ⟨(zR.pre [.ref (ad 0), .int b, .int i, .int p0, .int kn] hP hK hN).1, va_recv hK hP (ci := 9) (q0 := 0) rfl (zw_at (by omega) hs1), (zR.pre [.ref (ad 0), .int b, .int i, .int p0, .int kn] hP hK hN).2⟩ rfl rfl hl.1 rfl (lv_room (Nat.le_of_ble_eq_true rfl)) dX9_mustBe_6 ⟨Nat.le_of_ble_eq_true rfl, Nat.le_of_ble_eq_true rfl⟩) (fun r37 hr37 => ?_)
  rcases hr37 with hr37 | hr37
  · skip
    obtain ⟨rfl, h38, h39, h40, h41⟩ := hr37
    replace h38 : 0 ≤ b.toInt ∧ b.toInt ≤ 3 := h38
    replace h39 : 0 ≤ i.toInt ∧ i.toInt ≤ 7 := h39
    replace h40 : 0 ≤ p0.toInt ∧ p0.toInt < me.toInt := h40
    replace h41 : 0 ≤ kn.toInt ∧ kn.toInt ≤ 255 := h41
    refine lv_if_ne (tgt := 14) hx hb dX9_mustBe_9 (by decide) (fun c42 => ?_) (fun c42 => ?_)
    · skip
      refine lv_aload_n hx hb dX9_mustBe_14 rfl (lv_at hl 0 rfl) ?_
      refine va_get (D := g.1) (ci := 9) (v := .ref (ad 10)) (C := RX9) (T := TX9) (N := 47) hx hb hg inG9 hown hK hP 0 (zw_at (by omega) hs1) rfl 14 (by decide) (hg _ mm_972) (fun _ h9 => h9) rfl dX9_mustBe_15 ?_
      refine lv_iload_n hx hb dX9_mustBe_18 rfl (lv_at hl 1 rfl) ?_
      refine lv_iload_n hx hb dX9_mustBe_19 rfl (lv_at hl 2 rfl) ?_
      refine zc_i (va_runS (As := [.int b, .int i]) (rest := [.ref (ad 10)]) ⟨hx, hb, hml, hown, hg⟩ (k_X9_at l g ad me ct b i (by first | omega | decide) (by first | omega | decide) hI) (va_cwS 2 hg (z_gS mm_1159 mm_1160 mm_117 mm_1161) rfl rfl rfl (by decide +kernel) ⟨Nat.le_of_ble_eq_true rfl, Nat.le_of_ble_eq_true rfl⟩) (zR.pre [.int b, .int i] hP hK hN) rfl rfl hl.1 rfl (lv_room (Nat.le_of_ble_eq_true rfl)) dX9_mustBe_20 ⟨Nat.le_of_ble_eq_true rfl, Nat.le_of_ble_eq_true rfl⟩) (fun r43 hr43 => ?_)
      have hr43_0 := hr43
      have hr43_0 : r43.toInt = 8 * b.toInt + i.toInt := hr43_0
      obtain ⟨f45, hp46, hs44⟩ := a9_10 hI.1
      refine va_zald hx hb hK hP 10 3 (zw_at (by omega) hs44) rfl (z_in rfl (by omega) (by omega)) dX9_mustBe_23 ?_
      refine lv_topi (fun y47 ey47 => ?_)
      have hy47 := hp46 _ (z_clt (x := r43) rfl (by omega) (by omega))
      rw [← ey47] at hy47
      have hy47 : y47 = 0 ∨ y47 = 1 := hy47
      have by47 := z_b01 hy47
      refine lv_if_eq (tgt := 30) hx hb dX9_mustBe_24 (by decide) (fun c48 => ?_) (fun c48 => ?_)
      · skip
        have c48 : y47.toInt = 0 := (z_eq rfl (by decide : (0 : Int32).toInt = 0)).mp c48
        refine lv_aload_n hx hb dX9_mustBe_30 rfl (lv_at hl 0 rfl) ?_
        refine lv_iload_n hx hb dX9_mustBe_31 rfl (lv_at hl 1 rfl) ?_
        refine lv_iload hx hb dX9_mustBe_32 (lv_at hl 4 rfl) ?_
        have hFc := zw_free hD hS hA
        refine va_callv (va_runV (As := [.int b, .int kn]) (rest := []) ⟨hx, hb, hml, hown, hg⟩ (k_X9_laysFitting l g _ ad me ct b kn (by first | omega | decide) (by first | omega | decide) hI) (cwV 2 hg (z_gV mm_1329 mm_1331 mm_85 mm_117 mm_1332) rfl rfl rfl (by decide +kernel) ⟨Nat.le_of_ble_eq_true rfl, Nat.le_of_ble_eq_true rfl⟩) ⟨(zA.pre [.ref (ad 0), .int b, .int kn] hP hK hD hN).1, va_recv hK hP (ci := 9) (q0 := 0) rfl (zw_at (by omega) hs1), (zA.pre [.ref (ad 0), .int b, .int kn] hP hK hD hN).2⟩ rfl rfl hl.1 rfl (lv_room (Nat.le_of_ble_eq_true rfl)) dX9_mustBe_34 ⟨Nat.le_of_ble_eq_true rfl, Nat.le_of_ble_eq_true rfl⟩) hS (fun q _ h => hFc q h) hFc (fun _ t H1 locs ht hvm hr49 hB hz1 hk1 hS => ?_)
        obtain ⟨ct50, hP1, hD1, hI, hk51, hk52, hk53⟩ := hB
        rw [ht] at hP1
        have hD := hD1.weaken (fun _ _ _ h => hFc _ h)
        generalize H1 = H at hP1 hS ⊢
        have hP := hP1
        refine W.widen (k := 0) (n := 0) (Nat.le_refl _) (Nat.le_refl _) ?_
        have hs54 : ct50 0 = .inr (9, [.int me, .ref (ad 1), .ref (ad 2), .ref (ad 3), .ref (ad 4), .int bks2, .int lks3, .int gos4, .int shn5, .ref (ad 5), .ref (ad 6), .ref (ad 7), .ref (ad 8), .ref (ad 9), .ref (ad 10), .ref (ad 11), .int tpd6, .int pl07, .int ln08, .int flt9, .int opn10, .int cmy11, .int wtg12, .int nm013, .ref (ad 12), .ref (ad 13), .ref (ad 14), .ref (ad 15), .ref (ad 16), .ref (ad 17), .ref (ad 18), .ref (ad 19), .ref (ad 20), .ref (ad 21), .ref (ad 22), .ref (ad 23), .ref (ad 24), .ref (ad 25), .ref (ad 26), .ref (ad 27), .int mst14, .int sus15, .ref (ad 28), .ref (ad 29), .ref (ad 30), .ref (ad 31), .int cut16]) := hk51.trans hs1
        have hs55 : ct50 10 = .inl (g.2 3, 32, .inl f45) := hk53.trans hs44
        refine lv_aload_n hx hb dX9_mustBe_37 rfl (lv_at hl 0 rfl) ?_
        refine lv_iload_n hx hb dX9_mustBe_38 rfl (lv_at hl 1 rfl) ?_
        refine lv_iload_n hx hb dX9_mustBe_39 rfl (lv_at hl 2 rfl) ?_
        refine lv_iload_n hx hb dX9_mustBe_40 rfl (lv_at hl 3 rfl) ?_
        have hFc := zw_free hD hS hA
        refine va_calli (va_runV (As := [.int b, .int i, .int p0]) (rest := []) ⟨hx, hb, hml, hown, hg⟩ (k_X9_canAll l g _ ad me ct50 b i p0 (by first | omega | decide) (by first | omega | decide) (by first | omega | decide) hI) (cwV 3 hg (z_gV mm_1357 mm_1359 mm_89 mm_117 mm_1360) rfl rfl rfl (by decide +kernel) ⟨Nat.le_of_ble_eq_true rfl, Nat.le_of_ble_eq_true rfl⟩) ⟨(zA.pre [.ref (ad 0), .int b, .int i, .int p0] hP hK hD hN).1, va_recv hK hP (ci := 9) (q0 := 0) rfl (zw_at (by omega) hs54), (zA.pre [.ref (ad 0), .int b, .int i, .int p0] hP hK hD hN).2⟩ rfl rfl hl.1 rfl (lv_room (Nat.le_of_ble_eq_true rfl)) dX9_mustBe_41 ⟨Nat.le_of_ble_eq_true rfl, Nat.le_of_ble_eq_true rfl⟩) hS (fun q _ h => hFc q h) hFc (fun r56 u64 t H1 locs ht hvm hr56 hB hz1 hk1 hS => ?_)
        obtain ⟨ct57, hP1, hD1, hI, hk58, hk59, hk60, hk61, hk62, hk63⟩ := hB
        rw [ht] at hP1
        have hD := hD1.weaken (fun _ _ _ h => hFc _ h)
        generalize H1 = H at hP1 hS ⊢
        have hP := hP1
        refine W.widen (k := 0) (n := 0) (Nat.le_refl _) (Nat.le_refl _) ?_
        have hs65 : ct57 0 = .inr (9, [.int me, .ref (ad 1), .ref (ad 2), .ref (ad 3), .ref (ad 4), .int bks2, .int lks3, .int gos4, .int shn5, .ref (ad 5), .ref (ad 6), .ref (ad 7), .ref (ad 8), .ref (ad 9), .ref (ad 10), .ref (ad 11), .int tpd6, .int pl07, .int ln08, .int flt9, .int opn10, .int cmy11, .int wtg12, .int nm013, .ref (ad 12), .ref (ad 13), .ref (ad 14), .ref (ad 15), .ref (ad 16), .ref (ad 17), .ref (ad 18), .ref (ad 19), .ref (ad 20), .ref (ad 21), .ref (ad 22), .ref (ad 23), .ref (ad 24), .ref (ad 25), .ref (ad 26), .ref (ad 27), .int mst14, .int sus15, .ref (ad 28), .ref (ad 29), .ref (ad 30), .ref (ad 31), .int cut16]) := hk60.trans hs54
        have hs66 : ct57 10 = .inl (g.2 3, 32, .inl f45) := hk62.trans hs55
        rcases hr56 with hr56 | hr56
        · skip
          obtain ⟨rfl, h67⟩ := hr56
          replace h67 : u64 = 1 := h67
          have hk58 := hk58 h67
          refine lv_if_ne (tgt := 49) hx hb dX9_mustBe_44 (by decide) (fun c68 => ?_) (fun c68 => ?_)
          · skip
            refine lv_aload_n hx hb dX9_mustBe_49 rfl (lv_at hl 0 rfl) ?_
            refine lv_iload_n hx hb dX9_mustBe_50 rfl (lv_at hl 1 rfl) ?_
            refine lv_iload_n hx hb dX9_mustBe_51 rfl (lv_at hl 2 rfl) ?_
            have hFc := zw_free hD hS hA
            refine va_calli (va_runV (As := [.int b, .int i]) (rest := []) ⟨hx, hb, hml, hown, hg⟩ (k_X9_maybe l g _ ad me ct57 b i (by first | omega | decide) (by first | omega | decide) hI) (cwV 2 hg (z_gV mm_1369 mm_1371 mm_92 mm_117 mm_1372) rfl rfl rfl (by decide +kernel) ⟨Nat.le_of_ble_eq_true rfl, Nat.le_of_ble_eq_true rfl⟩) ⟨(zA.pre [.ref (ad 0), .int b, .int i] hP hK hD hN).1, va_recv hK hP (ci := 9) (q0 := 0) rfl (zw_at (by omega) hs65), (zA.pre [.ref (ad 0), .int b, .int i] hP hK hD hN).2⟩ rfl rfl hl.1 rfl (lv_room (Nat.le_of_ble_eq_true rfl)) dX9_mustBe_52 ⟨Nat.le_of_ble_eq_true rfl, Nat.le_of_ble_eq_true rfl⟩) hS (fun q _ h => hFc q h) hFc (fun r69 _ t H1 locs ht hvm hr69 hB hz1 hk1 hS => ?_)
            obtain ⟨ct70, hP1, hD1, hI, hk71, hk72, hk73, hk74⟩ := hB
            rw [ht] at hP1
            have hD := hD1.weaken (fun _ _ _ h => hFc _ h)
            generalize H1 = H at hP1 hS ⊢
            have hP := hP1
            refine W.widen (k := 0) (n := 0) (Nat.le_refl _) (Nat.le_refl _) ?_
            have hs75 : ct70 0 = .inr (9, [.int me, .ref (ad 1), .ref (ad 2), .ref (ad 3), .ref (ad 4), .int bks2, .int lks3, .int gos4, .int shn5, .ref (ad 5), .ref (ad 6), .ref (ad 7), .ref (ad 8), .ref (ad 9), .ref (ad 10), .ref (ad 11), .int tpd6, .int pl07, .int ln08, .int flt9, .int opn10, .int cmy11, .int wtg12, .int nm013, .ref (ad 12), .ref (ad 13), .ref (ad 14), .ref (ad 15), .ref (ad 16), .ref (ad 17), .ref (ad 18), .ref (ad 19), .ref (ad 20), .ref (ad 21), .ref (ad 22), .ref (ad 23), .ref (ad 24), .ref (ad 25), .ref (ad 26), .ref (ad 27), .int mst14, .int sus15, .ref (ad 28), .ref (ad 29), .ref (ad 30), .ref (ad 31), .int cut16]) := hk71.trans hs65
            have hs76 : ct70 10 = .inl (g.2 3, 32, .inl f45) := hk73.trans hs66
            obtain ⟨hr69_0, hr69_1⟩ := hr69
            have hr69_0 : 0 ≤ r69.toInt := hr69_0
            have hr69_1 : r69.toInt ≤ 65535 := hr69_1
            refine zc_i (va_runS (As := [.int r69]) (rest := []) ⟨hx, hb, hml, hown, hg⟩ (k_X9_bits l g ad me ct70 r69 hI) (va_cwS 1 hg (z_gS mm_1373 mm_1374 mm_117 mm_1375) rfl rfl rfl (by decide +kernel) ⟨Nat.le_of_ble_eq_true rfl, Nat.le_of_ble_eq_true rfl⟩) (zR.pre [.int r69] hP hK hN) rfl rfl hl.1 rfl (lv_room (Nat.le_of_ble_eq_true rfl)) dX9_mustBe_55 ⟨Nat.le_of_ble_eq_true rfl, Nat.le_of_ble_eq_true rfl⟩) (fun r77 hr77 => ?_)
            obtain ⟨hr77_0, hr77_1⟩ := hr77
            have hr77_0 : 0 ≤ r77.toInt := hr77_0
            have hr77_1 : r77.toInt ≤ 16 := hr77_1
            refine lv_iconst (v := 1) hx hb dX9_mustBe_58 (by decide) ?_
            refine lv_icmp_ne (tgt := 66) hx hb dX9_mustBe_59 (by decide) (fun c78 => ?_) (fun c78 => ?_)
            · skip
              have c78 : ¬ (r77.toInt = 1) := fun q => c78 ((z_eq rfl (by decide : (1 : Int32).toInt = 1)).mpr q)
              refine lv_iconst (v := 1) hx hb dX9_mustBe_66 (by decide) ?_
              have q79 : (1 : Int32).toInt = 1 := by decide
              exact W.iret (v := 1) hx hb hr (fun t ht hW => ⟨⟨1, (), rfl, trivial, ct70, by rw [ht]; exact hP, hD, hI⟩, hS.F ht⟩) hS.2.2 dX9_mustBe_67
            · skip
              have c78 : r77.toInt = 1 := (z_eq rfl (by decide : (1 : Int32).toInt = 1)).mp c78
              refine lv_iconst (v := 2) hx hb dX9_mustBe_62 (by decide) ?_
              refine lv_goto (tgt := 67) hx hb dX9_mustBe_63 (by decide) ?_
              have q80 : (2 : Int32).toInt = 2 := by decide
              exact W.iret (v := 2) hx hb hr (fun t ht hW => ⟨⟨2, (), rfl, trivial, ct70, by rw [ht]; exact hP, hD, hI⟩, hS.F ht⟩) hS.2.2 dX9_mustBe_67
          · skip
            exact absurd c68 (by decide)
        · skip
          obtain ⟨rfl, h81⟩ := hr56
          replace h81 : u64 = 0 := h81
          have hk59 := hk59 h81
          refine lv_if_ne (tgt := 49) hx hb dX9_mustBe_44 (by decide) (fun c82 => ?_) (fun c82 => ?_)
          · skip
            exact absurd c82 (by decide)
          · skip
            refine lv_iconst (v := 0) hx hb dX9_mustBe_47 (by decide) ?_
            have q83 : (0 : Int32).toInt = 0 := by decide
            exact W.iret (v := 0) hx hb hr (fun t ht hW => ⟨⟨0, (), rfl, trivial, ct57, by rw [ht]; exact hP, hD, hI⟩, hS.F ht⟩) hS.2.2 dX9_mustBe_48
      · skip
        have c48 : ¬ (y47.toInt = 0) := fun q => c48 ((z_eq rfl (by decide : (0 : Int32).toInt = 0)).mpr q)
        refine lv_bipush (v := (-2)) hx hb dX9_mustBe_27 (by decide) ?_
        have q84 : ((-2) : Int32).toInt = -2 := by decide
        exact W.iret (v := (-2)) hx hb hr (fun t ht hW => ⟨⟨(-2), (), rfl, trivial, ct, by rw [ht]; exact hP, hD, hI⟩, hS.F ht⟩) hS.2.2 dX9_mustBe_29
    · skip
      exact absurd c42 (by decide)
  · skip
    obtain rfl := hr37
    refine lv_if_ne (tgt := 14) hx hb dX9_mustBe_9 (by decide) (fun c85 => ?_) (fun c85 => ?_)
    · skip
      exact absurd c85 (by decide)
    · skip
      refine lv_iconst (v := (-1)) hx hb dX9_mustBe_12 (by decide) ?_
      have q86 : ((-1) : Int32).toInt = -1 := by decide
      exact W.iret (v := (-1)) hx hb hr (fun t ht hW => ⟨⟨(-1), (), rfl, trivial, ct, by rw [ht]; exact hP, hD, hI⟩, hS.F ht⟩) hS.2.2 dX9_mustBe_13

set_option maxHeartbeats 4000000 in
set_option maxRecDepth 100000 in
theorem k_X9_isLineN (l : Launch) (g : zG) (ad : Nat → Nat) (me : Int32) (ct : Nat → va_E) (b : Int32) (i : Int32) (hI : IR g ad me ct) : Met l yX9_isLine (zW yX9_isLine cX9_isLine 3 (some .boolean)) ({ frames := 1, cells := 0, slots := 0, locals := 21 }) (va_Pc [.ref (ad 0), .int b, .int i] (zR g (zw 32 ad ct))) (vp_Si (fun r : Int32 => (r = 1 ∧ (0 ≤ b.toInt ∧ b.toInt ≤ 3) ∧ (0 ≤ i.toInt ∧ i.toInt ≤ 7) ∧ (i.toInt < (zar (ct 5) b.toInt.toNat).toInt)) ∨ (r = 0))) 0 0 (fun _ => False) := by
  refine Met.ofW (cc := cX9_isLine) (maxL := 3) (ret := (some .boolean)) (by decide) rfl ?_
  intro p e s m args below meth c s₁ B hml hv
  obtain ⟨rfl, hP, hK, hN⟩ := hv
  have hx := B.exec
  have hb := B.bytes
  have hr := B.returns
  have hg := zW.law (atoms_spec (ws := (zW yX9_isLine cX9_isLine 3 (some .boolean))) B.pre)
  have hown : s.vm.findClass RX9 = some m.cls := findClass_of_methodNamed B.named
  have hlocks := B.notSynchronized
  have hpe0 := hI.1.1
  have hl := lv_entry ([.ref (ad 0), .int b, .int i]) (n := 3) (Nat.le_of_ble_eq_true rfl)
  rw [lg_entry_eq]
  generalize (lg_sl ([.ref (ad 0), .int b, .int i]) ++ List.replicate (3 - (lg_sl ([.ref (ad 0), .int b, .int i])).length) Slot.unset).toArray = ls at hl ⊢
  have hl : lv_has ls 3 [(0, .ref (ad 0)), (1, .int b), (2, .int i)] := hl
  have rg_b := z_rng b
  have rg_i := z_rng i
  refine lv_aload_n hx hb dX9_isLine_0 rfl (lv_at hl 0 rfl) ?_
  refine lv_iload_n hx hb dX9_isLine_1 rfl (lv_at hl 1 rfl) ?_
  obtain ⟨bks2, lks3, gos4, shn5, tpd6, pl07, ln08, flt9, opn10, cmy11, wtg12, nm013, mst14, sus15, cut16, h17, h18, h19, h20, h21, h22, h23, h24, h25, h26, h27, h28, h29, h30, h31, h32, h33, h34, h35, h36, hs1⟩ := a9_0 hI.1
  refine zc_i (va_runV (As := [.int b]) (rest := []) ⟨hx, hb, hml, hown, hg⟩ (k_X9_isBook l g ad me ct b hI) (cwV 1 hg (z_gV mm_1174 mm_1176 mm_58 mm_117 mm_1177) rfl rfl rfl (by decide +kernel) ⟨Nat.le_of_ble_eq_true rfl, Nat.le_of_ble_eq_true rfl⟩) ⟨(zR.pre [.ref (ad 0), .int b] hP hK hN).1, va_recv hK hP (ci := 9) (q0 := 0) rfl (zw_at (by omega) hs1), (zR.pre [.ref (ad 0), .int b] hP hK hN).2⟩ rfl rfl hl.1 rfl (lv_room (Nat.le_of_ble_eq_true rfl)) dX9_isLine_2 ⟨Nat.le_of_ble_eq_true rfl, Nat.le_of_ble_eq_true rfl⟩) (fun r37 hr37 => ?_)
  rcases hr37 with hr37 | hr37
  · skip
    obtain ⟨rfl, h38, h39⟩ := hr37
    replace h38 : 0 ≤ b.toInt := h38
    replace h39 : b.toInt ≤ 3 := h39
    refine lv_if_eq (tgt := 26) hx hb dX9_isLine_5 (by decide) (fun c40 => ?_) (fun c40 => ?_)
    · skip
      exact absurd c40 (by decide)
    · skip
      refine lv_iload_n hx hb dX9_isLine_8 rfl (lv_at hl 2 rfl) ?_
      refine lv_if_lt (tgt := 26) hx hb dX9_isLine_9 (by decide) (fun c41 => ?_) (fun c41 => ?_)
      · skip
        have c41 : i.toInt < 0 := (z_lt rfl (by decide : (0 : Int32).toInt = 0)).mp c41
        refine lv_iconst (v := 0) hx hb dX9_isLine_26 (by decide) ?_
        have q42 : (0 : Int32).toInt = 0 := by decide
        exact W.zret (v := 0) hx hb hr rfl (fun t ht hW => ⟨0, rfl, Or.inr rfl, ht⟩) (fun q hq => by cases hq) dX9_isLine_27
      · skip
        have c41 : ¬ (i.toInt < 0) := fun q => c41 ((z_lt rfl (by decide : (0 : Int32).toInt = 0)).mpr q)
        refine lv_iload_n hx hb dX9_isLine_12 rfl (lv_at hl 2 rfl) ?_
        refine lv_aload_n hx hb dX9_isLine_13 rfl (lv_at hl 0 rfl) ?_
        refine va_get (D := g.1) (ci := 9) (v := .ref (ad 5)) (C := RX9) (T := TX9) (N := 47) hx hb hg inG9 hown hK hP 0 (zw_at (by omega) hs1) rfl 9 (by decide) (hg _ mm_967) (fun _ h9 => h9) rfl dX9_isLine_14 ?_
        refine lv_iload_n hx hb dX9_isLine_17 rfl (lv_at hl 1 rfl) ?_
        obtain ⟨f44, hp45, hs43⟩ := a9_5 hI.1
        refine va_iald hx hb hK hP 5 0 (zw_at (by omega) hs43) rfl (z_in rfl (by omega) (by omega)) dX9_isLine_18 ?_
        refine lv_topi (fun y46 ey46 => ?_)
        have hy46 := hp45 _ (z_clt (x := b) rfl (by omega) (by omega))
        rw [← ey46] at hy46
        have hy46 : 0 ≤ y46.toInt ∧ y46.toInt ≤ 8 := hy46
        refine lv_icmp_ge (tgt := 26) hx hb dX9_isLine_19 (by decide) (fun c47 => ?_) (fun c47 => ?_)
        · skip
          have c47 : y46.toInt ≤ i.toInt := (z_le rfl rfl).mp c47
          refine lv_iconst (v := 0) hx hb dX9_isLine_26 (by decide) ?_
          have q48 : (0 : Int32).toInt = 0 := by decide
          exact W.zret (v := 0) hx hb hr rfl (fun t ht hW => ⟨0, rfl, Or.inr rfl, ht⟩) (fun q hq => by cases hq) dX9_isLine_27
        · skip
          have c47 : ¬ (y46.toInt ≤ i.toInt) := fun q => c47 ((z_le rfl rfl).mpr q)
          refine lv_iconst (v := 1) hx hb dX9_isLine_22 (by decide) ?_
          refine lv_goto (tgt := 27) hx hb dX9_isLine_23 (by decide) ?_
          have q49 : (1 : Int32).toInt = 1 := by decide
          exact W.zret (v := 1) hx hb hr rfl (fun t ht hW => ⟨1, rfl, Or.inl ⟨rfl, by omega, by omega, by rw [show zar (ct 5) b.toInt.toNat = y46 from by rw [zar_of hs43, ey46, z_cl (x := b) (k := b.toInt.toNat) (by omega)]]; omega⟩, ht⟩) (fun q hq => by cases hq) dX9_isLine_27
  · skip
    obtain rfl := hr37
    refine lv_if_eq (tgt := 26) hx hb dX9_isLine_5 (by decide) (fun c50 => ?_) (fun c50 => ?_)
    · skip
      refine lv_iconst (v := 0) hx hb dX9_isLine_26 (by decide) ?_
      have q51 : (0 : Int32).toInt = 0 := by decide
      exact W.zret (v := 0) hx hb hr rfl (fun t ht hW => ⟨0, rfl, Or.inr rfl, ht⟩) (fun q hq => by cases hq) dX9_isLine_27
    · skip
      exact absurd c50 (by decide)
