set_option maxHeartbeats 4000000 in
set_option maxRecDepth 100000 in
theorem k_X9_spreads (l : Launch) (g : zG) (sz : Nat) (ad : Nat → Nat) (me : Int32) (ct : Nat → va_E) (set : Int32) (who : Int32) (hl_set : 0 ≤ set.toInt ∧ set.toInt ≤ 65535) (hl_who : 0 ≤ who.toInt ∧ who.toInt ≤ 65535) (hI : IR g ad me ct) : Met l yX9_spreads (zW yX9_spreads cX9_spreads 4 none) ({ frames := 0, cells := 0, slots := 0, locals := 0 }) (va_Pc [.ref (ad 0), .int set, .int who] (zA g (zw 32 ad ct) sz)) (va_Qv (fun (_ : Unit) => True) (fun _ t => ∃ ct2 : Nat → va_E, zP g (zw 32 ad ct2) t.heap ∧ va_D (va_A (zw 32 ad ct) sz) (zw 32 ad ct2) ∧ IR g ad me ct2 ∧ (ct2 0 = ct 0) ∧ (ct2 5 = ct 5) ∧ (ct2 10 = ct 10) ∧ (ct2 20 = ct 20)) (va_A (zw 32 ad ct) sz)) 0 0 (va_A (zw 32 ad ct) sz) := by
  refine Met.ofW (cc := cX9_spreads) (maxL := 4) (ret := none) (by decide) rfl ?_
  intro p e s m args below meth c s₁ B hml hv
  obtain ⟨rfl, hsz, hP, hK, hD0, hN⟩ := hv
  have hx := B.exec
  have hb := B.bytes
  have hr := B.returns
  have hg := zW.law (atoms_spec (ws := (zW yX9_spreads cX9_spreads 4 none)) B.pre)
  have hown : s.vm.findClass RX9 = some m.cls := findClass_of_methodNamed B.named
  have hlocks := B.notSynchronized
  have hpe0 := hI.1.1
  subst hsz
  have hD := hD0.self (sz := s.heap.size)
  generalize hAe : va_A (zw 32 ad ct) s.heap.size = A at hD ⊢
  have hA : ∀ q : Nat, s.heap.size ≤ q → A q := fun q h => by rw [← hAe]; exact Or.inr h
  have hS : va_S A s.heap s.heap [] := va_S.rf
  have hl := lv_entry ([.ref (ad 0), .int set, .int who]) (n := 4) (Nat.le_of_ble_eq_true rfl)
  rw [lg_entry_eq]
  generalize (lg_sl ([.ref (ad 0), .int set, .int who]) ++ List.replicate (4 - (lg_sl ([.ref (ad 0), .int set, .int who])).length) Slot.unset).toArray = ls at hl ⊢
  have hl : lv_has ls 4 [(0, .ref (ad 0)), (1, .int set), (2, .int who)] := hl
  have hc0 : ct 0 = ct 0 := rfl
  have hc5 : ct 5 = ct 5 := rfl
  have hc10 : ct 10 = ct 10 := rfl
  have hc20 : ct 20 = ct 20 := rfl
  refine lv_iconst (v := 0) hx hb dX9_spreads_0 (by decide) ?_
  refine lv_istore_n (lv' := [(3, .int 0), (0, .ref (ad 0)), (1, .int set), (2, .int who)]) hx hb dX9_spreads_1 rfl hl (by decide) rfl (fun ls hl => ?_)
  have loop2 : ∀ (n2 : Nat) (v3_2 : Int32) (ct1 : Nat → va_E) (H : Heap) (locs : List Loc) (ls : Array Slot), ((16 - v3_2.toInt : Int).toNat < n2) → (0 ≤ v3_2.toInt ∧ v3_2.toInt ≤ 16) → (ct1 0 = ct 0) → (ct1 5 = ct 5) → (ct1 10 = ct 10) → (ct1 20 = ct 20) → (IR g ad me ct1) → zP g (zw 32 ad ct1) H → va_D A (zw 32 ad ct1) → va_S A s.heap H locs → lv_has ls 4 [(3, .int v3_2), (0, .ref (ad 0)), (1, .int set), (2, .int who)] → W p l e (headSpec (zW yX9_spreads cX9_spreads 4 none) ({ frames := 0, cells := 0, slots := 0, locals := 0 })).room s m ([.ref (ad 0), .int set, .int who] : List Value).toArray below meth c H locs 0 0 (MQ below (va_Qv (fun (_ : Unit) => True) (fun _ t => ∃ ct2 : Nat → va_E, zP g (zw 32 ad ct2) t.heap ∧ va_D A (zw 32 ad ct2) ∧ IR g ad me ct2 ∧ (ct2 0 = ct 0) ∧ (ct2 5 = ct 5) ∧ (ct2 10 = ct 10) ∧ (ct2 20 = ct 20)) A) ([.ref (ad 0), .int set, .int who] : List Value).toArray s 0 0 A) (F0 m 2 ls []) := by
    intro n2
    induction n2 with
    | zero =>
      intro v3_2 ct1 H locs ls hn2 b3_2 hc0 hc5 hc10 hc20 hI hP hD hS hl
      exact absurd hn2 (Nat.not_lt_zero _)
    | succ n2 ih2 =>
      intro v3_2 ct1 H locs ls hn2 b3_2 hc0 hc5 hc10 hc20 hI hP hD hS hl
      refine lv_iload_n hx hb dX9_spreads_2 rfl (lv_at hl 0 rfl) ?_
      refine lv_aload_n hx hb dX9_spreads_3 rfl (lv_at hl 1 rfl) ?_
      obtain ⟨bks3, lks4, gos5, shn6, tpd7, pl08, ln09, flt10, opn11, cmy12, wtg13, nm014, mst15, sus16, cut17, h18, h19, h20, h21, h22, h23, h24, h25, h26, h27, h28, h29, h30, h31, h32, h33, h34, h35, h36, h37, hs2⟩ := a9_0 hI.1
      refine va_get (D := g.1) (ci := 9) (v := .int me) (C := RX9) (T := TX9) (N := 47) hx hb hg inG9 hown hK hP 0 (zw_at (by omega) hs2) rfl 0 (by decide) (hg _ mm_958) (fun _ h9 => h9) rfl dX9_spreads_4 ?_
      refine lv_icmp_ge (tgt := 56) hx hb dX9_spreads_7 (by decide) (fun c38 => ?_) (fun c38 => ?_)
      · skip
        have c38 : me.toInt ≤ v3_2.toInt := (z_le rfl rfl).mp c38
        exact W.vret hx hb hr (fun t ht hW => ⟨⟨(), rfl, trivial, ct1, by rw [ht]; exact hP, hD, hI, (by first | assumption | omega), (by first | assumption | omega), (by first | assumption | omega), (by first | assumption | omega)⟩, hS.F ht⟩) hS.2.2 dX9_spreads_56
      · skip
        have c38 : ¬ (me.toInt ≤ v3_2.toInt) := fun q => c38 ((z_le rfl rfl).mpr q)
        refine lv_iload_n hx hb dX9_spreads_10 rfl (lv_at hl 3 rfl) ?_
        refine lv_iload_n hx hb dX9_spreads_11 rfl (lv_at hl 2 rfl) ?_
        refine lv_iconst (v := (-1)) hx hb dX9_spreads_12 (by decide) ?_
        refine lv_ixor hx hb dX9_spreads_13 ?_
        refine lv_topi (fun x39 ex39 => ?_)
        refine lv_iand hx hb dX9_spreads_14 ?_
        refine lv_topi (fun x40 ex40 => ?_)
        have tx40 := z_andl (x := who) (y := x39) rfl (by omega)
        rw [← ex40] at tx40
        refine lv_iload_n hx hb dX9_spreads_15 rfl (lv_at hl 0 rfl) ?_
        refine lv_ishr hx hb dX9_spreads_16 ?_
        refine lv_topi (fun x41 ex41 => ?_)
        have tx41 := z_shr (x := x40) rfl (by omega) v3_2
        rw [← ex41] at tx41
        refine lv_iconst (v := 1) hx hb dX9_spreads_17 (by decide) ?_
        refine lv_iand hx hb dX9_spreads_18 ?_
        refine lv_topi (fun x42 ex42 => ?_)
        have tx42 := z_andr (x := x41) (y := 1) (by decide : (1 : Int32).toInt = 1) (by omega)
        rw [← ex42] at tx42
        refine lv_iconst (v := 1) hx hb dX9_spreads_19 (by decide) ?_
        refine lv_icmp_ne (tgt := 50) hx hb dX9_spreads_20 (by decide) (fun c43 => ?_) (fun c43 => ?_)
        · skip
          have c43 : ¬ (x42.toInt = 1) := fun q => c43 ((z_eq rfl (by decide : (1 : Int32).toInt = 1)).mpr q)
          obtain ⟨x44, ex44⟩ : ∃ y : Int32, y = v3_2 + 1 := ⟨_, rfl⟩
          have tx44 : x44.toInt = v3_2.toInt + 1 := by rw [ex44]; exact z_add rfl (by decide : (1 : Int32).toInt = 1) (by omega) (by omega)
          refine lv_iinc (v := x44) (lv' := [(3, .int x44), (0, .ref (ad 0)), (1, .int set), (2, .int who)]) hx hb dX9_spreads_50 hl (k := 0) rfl (by rw [ex44]; rfl) (by decide) rfl (fun ls hl => ?_)
          refine lv_goto (tgt := 2) hx hb dX9_spreads_53 (by decide) ?_
          exact ih2 x44 ct1 _ _ ls (by omega) (by first | assumption | omega | decide) (by first | assumption | omega | decide) (by first | assumption | omega | decide) (by first | assumption | omega | decide) (by first | assumption | omega | decide) hI hP hD hS (lv_sub hl [0, 1, 2, 3] rfl)
        · skip
          have c43 : x42.toInt = 1 := (z_eq rfl (by decide : (1 : Int32).toInt = 1)).mp c43
          refine lv_aload_n hx hb dX9_spreads_23 rfl (lv_at hl 1 rfl) ?_
          refine va_get (D := g.1) (ci := 9) (v := .ref (ad 21)) (C := RX9) (T := TX9) (N := 47) hx hb hg inG9 hown hK hP 0 (zw_at (by omega) hs2) rfl 33 (by decide) (hg _ mm_991) (fun _ h9 => h9) rfl dX9_spreads_24 ?_
          refine lv_iload_n hx hb dX9_spreads_27 rfl (lv_at hl 2 rfl) ?_
          refine lv_iconst (v := 1) hx hb dX9_spreads_28 (by decide) ?_
          refine lv_iload_n hx hb dX9_spreads_29 rfl (lv_at hl 0 rfl) ?_
          refine lv_ishl hx hb dX9_spreads_30 ?_
          refine lv_topi (fun x45 ex45 => ?_)
          have tx45 := z_shl1 (y := v3_2) rfl (by omega) (k := 15) (by decide) (by omega)
          rw [← ex45] at tx45
          refine lv_ior hx hb dX9_spreads_31 ?_
          refine lv_topi (fun x46 ex46 => ?_)
          have tx46 := z_or (x := set) (y := x45) rfl rfl (k := 16) (N := 65536) (by decide) (by decide) (by omega) (by omega) (by omega) (by omega)
          rw [← ex46] at tx46
          refine lv_aload_n hx hb dX9_spreads_32 rfl (lv_at hl 1 rfl) ?_
          refine va_get (D := g.1) (ci := 9) (v := .ref (ad 21)) (C := RX9) (T := TX9) (N := 47) hx hb hg inG9 hown hK hP 0 (zw_at (by omega) hs2) rfl 33 (by decide) (hg _ mm_991) (fun _ h9 => h9) rfl dX9_spreads_33 ?_
          refine lv_iload_n hx hb dX9_spreads_36 rfl (lv_at hl 2 rfl) ?_
          refine lv_iconst (v := 1) hx hb dX9_spreads_37 (by decide) ?_
          refine lv_iload_n hx hb dX9_spreads_38 rfl (lv_at hl 0 rfl) ?_
          refine lv_ishl hx hb dX9_spreads_39 ?_
          refine lv_topi (fun x47 ex47 => ?_)
          have tx47 := z_shl1 (y := v3_2) rfl (by omega) (k := 15) (by decide) (by omega)
          rw [← ex47] at tx47
          refine lv_ior hx hb dX9_spreads_40 ?_
          refine lv_topi (fun x48 ex48 => ?_)
          have tx48 := z_or (x := set) (y := x47) rfl rfl (k := 16) (N := 65536) (by decide) (by decide) (by omega) (by omega) (by omega) (by omega)
          rw [← ex48] at tx48
          obtain ⟨f50, hs49⟩ := a9_21 hI.1
          refine va_lald hx hb hK hP 21 1 (zw_at (by omega) hs49) rfl (z_in rfl (by omega) (by omega)) dX9_spreads_41 ?_
          refine lv_topl (fun y51 ey51 => ?_)
          refine lv_aload_n hx hb dX9_spreads_42 rfl (lv_at hl 1 rfl) ?_
          refine va_get (D := g.1) (ci := 9) (v := .ref (ad 21)) (C := RX9) (T := TX9) (N := 47) hx hb hg inG9 hown hK hP 0 (zw_at (by omega) hs2) rfl 33 (by decide) (hg _ mm_991) (fun _ h9 => h9) rfl dX9_spreads_43 ?_
          refine lv_iload_n hx hb dX9_spreads_46 rfl (lv_at hl 2 rfl) ?_
          refine va_lald hx hb hK hP 21 1 (zw_at (by omega) hs49) rfl (z_in rfl (by omega) (by omega)) dX9_spreads_47 ?_
          refine lv_topl (fun y52 ey52 => ?_)
          refine lv_ladd hx hb dX9_spreads_48 ?_
          refine lv_topl (fun x53 ex53 => ?_)
          refine va_last hx hb hK hP hD hS 21 1 (zw_at (by omega) hs49) rfl (z_in rfl (by omega) (by omega)) dX9_spreads_49 (fun H locs hP hD hS => ?_)
          have hP : zP g ((zw 32 ad ct1).set 21 (ad 21, .inl (g.2 1, 65536, .inr (.inl (vp_updL f50 (Int32.toNatClampNeg x46) x53))))) H := hP
          have hD : va_D A ((zw 32 ad ct1).set 21 (ad 21, .inl (g.2 1, 65536, .inr (.inl (vp_updL f50 (Int32.toNatClampNeg x46) x53))))) := hD
          rw [zw_set (by omega)] at hP hD
          obtain ⟨ct55, ec56⟩ : ∃ z : Nat → va_E, z = va_up ct1 21 (.inl (g.2 1, 65536, .inr (.inl (vp_updL f50 (Int32.toNatClampNeg x46) x53)))) := ⟨_, rfl⟩
          rw [← ec56] at hP hD
          have hI : IR g ad me ct55 := by rw [ec56]; exact upR hI (by decide) (i9_21 ⟨_, rfl⟩)
          have hc0 : ct55 0 = ct 0 := by rw [ec56]; exact (va_up_ne _ _ (by omega)).trans hc0
          have hc5 : ct55 5 = ct 5 := by rw [ec56]; exact (va_up_ne _ _ (by omega)).trans hc5
          have hc10 : ct55 10 = ct 10 := by rw [ec56]; exact (va_up_ne _ _ (by omega)).trans hc10
          have hc20 : ct55 20 = ct 20 := by rw [ec56]; exact (va_up_ne _ _ (by omega)).trans hc20
          have hs57 : ct55 0 = .inr (9, [.int me, .ref (ad 1), .ref (ad 2), .ref (ad 3), .ref (ad 4), .int bks3, .int lks4, .int gos5, .int shn6, .ref (ad 5), .ref (ad 6), .ref (ad 7), .ref (ad 8), .ref (ad 9), .ref (ad 10), .ref (ad 11), .int tpd7, .int pl08, .int ln09, .int flt10, .int opn11, .int cmy12, .int wtg13, .int nm014, .ref (ad 12), .ref (ad 13), .ref (ad 14), .ref (ad 15), .ref (ad 16), .ref (ad 17), .ref (ad 18), .ref (ad 19), .ref (ad 20), .ref (ad 21), .ref (ad 22), .ref (ad 23), .ref (ad 24), .ref (ad 25), .ref (ad 26), .ref (ad 27), .int mst15, .int sus16, .ref (ad 28), .ref (ad 29), .ref (ad 30), .ref (ad 31), .int cut17]) := by rw [ec56, va_up_ne _ _ (by omega)]; exact hs2
          have hs58 : ct55 21 = .inl (g.2 1, 65536, .inr (.inl (vp_updL f50 (Int32.toNatClampNeg x46) x53))) := by rw [ec56]; exact va_up_self _ _ _
          obtain ⟨x59, ex59⟩ : ∃ y : Int32, y = v3_2 + 1 := ⟨_, rfl⟩
          have tx59 : x59.toInt = v3_2.toInt + 1 := by rw [ex59]; exact z_add rfl (by decide : (1 : Int32).toInt = 1) (by omega) (by omega)
          refine lv_iinc (v := x59) (lv' := [(3, .int x59), (0, .ref (ad 0)), (1, .int set), (2, .int who)]) hx hb dX9_spreads_50 hl (k := 0) rfl (by rw [ex59]; rfl) (by decide) rfl (fun ls hl => ?_)
          refine lv_goto (tgt := 2) hx hb dX9_spreads_53 (by decide) ?_
          exact ih2 x59 ct55 _ _ ls (by omega) (by first | assumption | omega | decide) (by first | assumption | omega | decide) (by first | assumption | omega | decide) (by first | assumption | omega | decide) (by first | assumption | omega | decide) hI hP hD hS (lv_sub hl [0, 1, 2, 3] rfl)
  exact loop2 ((16 - (0 : Int32).toInt : Int).toNat + 1) (0 : Int32) ct _ _ ls (by omega) (by first | assumption | omega | decide) (by first | assumption | omega | decide) (by first | assumption | omega | decide) (by first | assumption | omega | decide) (by first | assumption | omega | decide) hI hP hD hS (lv_sub hl [0, 1, 2, 3] rfl)

set_option maxHeartbeats 4000000 in
set_option maxRecDepth 100000 in
theorem k_X9_counts (l : Launch) (g : zG) (sz : Nat) (ad : Nat → Nat) (me : Int32) (ct : Nat → va_E) (b : Int32) (to : Int32) (pn : Int32) (hl_b : 0 ≤ b.toInt ∧ b.toInt ≤ 3) (hI : IR g ad me ct) : Met l yX9_counts (zW yX9_counts cX9_counts 9 (some .long)) ({ frames := 1, cells := 0, slots := 0, locals := 23 }) (va_Pc [.ref (ad 0), .int b, .int to, .int pn] (zA g (zw 32 ad ct) sz)) (va_Ql (fun (r : Int64) (_ : Unit) => (True)) (fun _ t => ∃ ct2 : Nat → va_E, zP g (zw 32 ad ct2) t.heap ∧ va_D (va_A (zw 32 ad ct) sz) (zw 32 ad ct2) ∧ IR g ad me ct2 ∧ (ct2 0 = ct 0) ∧ (ct2 5 = ct 5) ∧ (ct2 10 = ct 10) ∧ (ct2 20 = ct 20)) (va_A (zw 32 ad ct) sz)) 0 0 (va_A (zw 32 ad ct) sz) := by
  refine Met.ofW (cc := cX9_counts) (maxL := 9) (ret := (some .long)) (by decide) rfl ?_
  intro p e s m args below meth c s₁ B hml hv
  obtain ⟨rfl, hsz, hP, hK, hD0, hN⟩ := hv
  have hx := B.exec
  have hb := B.bytes
  have hr := B.returns
  have hg := zW.law (atoms_spec (ws := (zW yX9_counts cX9_counts 9 (some .long))) B.pre)
  have hown : s.vm.findClass RX9 = some m.cls := findClass_of_methodNamed B.named
  have hlocks := B.notSynchronized
  have hpe0 := hI.1.1
  subst hsz
  have hD := hD0.self (sz := s.heap.size)
  generalize hAe : va_A (zw 32 ad ct) s.heap.size = A at hD ⊢
  have hA : ∀ q : Nat, s.heap.size ≤ q → A q := fun q h => by rw [← hAe]; exact Or.inr h
  have hS : va_S A s.heap s.heap [] := va_S.rf
  have hl := lv_entry ([.ref (ad 0), .int b, .int to, .int pn]) (n := 9) (Nat.le_of_ble_eq_true rfl)
  rw [lg_entry_eq]
  generalize (lg_sl ([.ref (ad 0), .int b, .int to, .int pn]) ++ List.replicate (9 - (lg_sl ([.ref (ad 0), .int b, .int to, .int pn])).length) Slot.unset).toArray = ls at hl ⊢
  have hl : lv_has ls 9 [(0, .ref (ad 0)), (1, .int b), (2, .int to), (3, .int pn)] := hl
  have hc0 : ct 0 = ct 0 := rfl
  have hc5 : ct 5 = ct 5 := rfl
  have hc10 : ct 10 = ct 10 := rfl
  have hc20 : ct 20 = ct 20 := rfl
  have rg_to := z_rng to
  have rg_pn := z_rng pn
  refine lv_iconst (v := 1) hx hb dX9_counts_0 (by decide) ?_
  refine lv_aload_n hx hb dX9_counts_1 rfl (lv_at hl 0 rfl) ?_
  obtain ⟨bks2, lks3, gos4, shn5, tpd6, pl07, ln08, flt9, opn10, cmy11, wtg12, nm013, mst14, sus15, cut16, h17, h18, h19, h20, h21, h22, h23, h24, h25, h26, h27, h28, h29, h30, h31, h32, h33, h34, h35, h36, hs1⟩ := a9_0 hI.1
  refine va_get (D := g.1) (ci := 9) (v := .int me) (C := RX9) (T := TX9) (N := 47) hx hb hg inG9 hown hK hP 0 (zw_at (by omega) hs1) rfl 0 (by decide) (hg _ mm_958) (fun _ h9 => h9) rfl dX9_counts_2 ?_
  refine lv_ishl hx hb dX9_counts_5 ?_
  refine lv_topi (fun x37 ex37 => ?_)
  have tx37 := z_shl1 (y := me) rfl (by omega) (k := 16) (by decide) (by omega)
  rw [← ex37] at tx37
  refine lv_istore (lv' := [(4, .int x37), (0, .ref (ad 0)), (1, .int b), (2, .int to), (3, .int pn)]) hx hb dX9_counts_6 hl (by decide) rfl (fun ls hl => ?_)
  refine lv_iconst (v := 0) hx hb dX9_counts_8 (by decide) ?_
  refine lv_istore (lv' := [(5, .int 0), (4, .int x37), (0, .ref (ad 0)), (1, .int b), (2, .int to), (3, .int pn)]) hx hb dX9_counts_9 hl (by decide) rfl (fun ls hl => ?_)
  have loop11 : ∀ (n11 : Nat) (v5_11 : Int32) (ct38 : Nat → va_E) (H : Heap) (locs : List Loc) (ls : Array Slot), ((65536 - v5_11.toInt : Int).toNat < n11) → (0 ≤ v5_11.toInt ∧ v5_11.toInt ≤ 65536) → (ct38 0 = ct 0) → (ct38 5 = ct 5) → (ct38 10 = ct 10) → (ct38 20 = ct 20) → (IR g ad me ct38) → zP g (zw 32 ad ct38) H → va_D A (zw 32 ad ct38) → va_S A s.heap H locs → lv_has ls 9 [(5, .int v5_11), (4, .int x37), (0, .ref (ad 0)), (1, .int b), (2, .int to), (3, .int pn)] → W p l e (headSpec (zW yX9_counts cX9_counts 9 (some .long)) ({ frames := 1, cells := 0, slots := 0, locals := 23 })).room s m ([.ref (ad 0), .int b, .int to, .int pn] : List Value).toArray below meth c H locs 0 0 (MQ below (va_Ql (fun (r : Int64) (_ : Unit) => (True)) (fun _ t => ∃ ct2 : Nat → va_E, zP g (zw 32 ad ct2) t.heap ∧ va_D A (zw 32 ad ct2) ∧ IR g ad me ct2 ∧ (ct2 0 = ct 0) ∧ (ct2 5 = ct 5) ∧ (ct2 10 = ct 10) ∧ (ct2 20 = ct 20)) A) ([.ref (ad 0), .int b, .int to, .int pn] : List Value).toArray s 0 0 A) (F0 m 11 ls []) := by
    intro n11
    induction n11 with
    | zero =>
      intro v5_11 ct38 H locs ls hn11 b5_11 hc0 hc5 hc10 hc20 hI hP hD hS hl
      exact absurd hn11 (Nat.not_lt_zero _)
    | succ n11 ih11 =>
      intro v5_11 ct38 H locs ls hn11 b5_11 hc0 hc5 hc10 hc20 hI hP hD hS hl
      refine lv_iload hx hb dX9_counts_11 (lv_at hl 0 rfl) ?_
      refine lv_iload hx hb dX9_counts_13 (lv_at hl 1 rfl) ?_
      refine lv_icmp_ge (tgt := 32) hx hb dX9_counts_15 (by decide) (fun c39 => ?_) (fun c39 => ?_)
      · skip
        have c39 : x37.toInt ≤ v5_11.toInt := (z_le rfl rfl).mp c39
        refine lv_aload_n hx hb dX9_counts_32 rfl (lv_at hl 2 rfl) ?_
        obtain ⟨bks41, lks42, gos43, shn44, tpd45, pl046, ln047, flt48, opn49, cmy50, wtg51, nm052, mst53, sus54, cut55, h56, h57, h58, h59, h60, h61, h62, h63, h64, h65, h66, h67, h68, h69, h70, h71, h72, h73, h74, h75, hs40⟩ := a9_0 hI.1
        refine va_get (D := g.1) (ci := 9) (v := .ref (ad 21)) (C := RX9) (T := TX9) (N := 47) hx hb hg inG9 hown hK hP 0 (zw_at (by omega) hs40) rfl 33 (by decide) (hg _ mm_991) (fun _ h9 => h9) rfl dX9_counts_33 ?_
        refine lv_iconst (v := 0) hx hb dX9_counts_36 (by decide) ?_
        refine lv_lconst (v := 1) hx hb dX9_counts_37 (by decide) ?_
        obtain ⟨f77, hs76⟩ := a9_21 hI.1
        refine va_last hx hb hK hP hD hS 21 1 (zw_at (by omega) hs76) rfl (z_in (by decide : (0 : Int32).toInt = 0) (by omega) (by omega)) dX9_counts_38 (fun H locs hP hD hS => ?_)
        have hP : zP g ((zw 32 ad ct38).set 21 (ad 21, .inl (g.2 1, 65536, .inr (.inl (vp_updL f77 (Int32.toNatClampNeg 0) 1))))) H := hP
        have hD : va_D A ((zw 32 ad ct38).set 21 (ad 21, .inl (g.2 1, 65536, .inr (.inl (vp_updL f77 (Int32.toNatClampNeg 0) 1))))) := hD
        rw [zw_set (by omega)] at hP hD
        obtain ⟨ct79, ec80⟩ : ∃ z : Nat → va_E, z = va_up ct38 21 (.inl (g.2 1, 65536, .inr (.inl (vp_updL f77 (Int32.toNatClampNeg 0) 1)))) := ⟨_, rfl⟩
        rw [← ec80] at hP hD
        have hI : IR g ad me ct79 := by rw [ec80]; exact upR hI (by decide) (i9_21 ⟨_, rfl⟩)
        have hc0 : ct79 0 = ct 0 := by rw [ec80]; exact (va_up_ne _ _ (by omega)).trans hc0
        have hc5 : ct79 5 = ct 5 := by rw [ec80]; exact (va_up_ne _ _ (by omega)).trans hc5
        have hc10 : ct79 10 = ct 10 := by rw [ec80]; exact (va_up_ne _ _ (by omega)).trans hc10
        have hc20 : ct79 20 = ct 20 := by rw [ec80]; exact (va_up_ne _ _ (by omega)).trans hc20
        have hs81 : ct79 0 = .inr (9, [.int me, .ref (ad 1), .ref (ad 2), .ref (ad 3), .ref (ad 4), .int bks41, .int lks42, .int gos43, .int shn44, .ref (ad 5), .ref (ad 6), .ref (ad 7), .ref (ad 8), .ref (ad 9), .ref (ad 10), .ref (ad 11), .int tpd45, .int pl046, .int ln047, .int flt48, .int opn49, .int cmy50, .int wtg51, .int nm052, .ref (ad 12), .ref (ad 13), .ref (ad 14), .ref (ad 15), .ref (ad 16), .ref (ad 17), .ref (ad 18), .ref (ad 19), .ref (ad 20), .ref (ad 21), .ref (ad 22), .ref (ad 23), .ref (ad 24), .ref (ad 25), .ref (ad 26), .ref (ad 27), .int mst53, .int sus54, .ref (ad 28), .ref (ad 29), .ref (ad 30), .ref (ad 31), .int cut55]) := by rw [ec80, va_up_ne _ _ (by omega)]; exact hs40
        have hs82 : ct79 21 = .inl (g.2 1, 65536, .inr (.inl (vp_updL f77 (Int32.toNatClampNeg 0) 1))) := by rw [ec80]; exact va_up_self _ _ _
        refine lv_iconst (v := 0) hx hb dX9_counts_39 (by decide) ?_
        refine lv_istore (lv' := [(5, .int 0), (4, .int x37), (0, .ref (ad 0)), (1, .int b), (2, .int to), (3, .int pn)]) hx hb dX9_counts_40 hl (by decide) rfl (fun ls hl => ?_)
        refine lv_iconst (v := 0) hx hb dX9_counts_42 (by decide) ?_
        refine lv_istore (lv' := [(6, .int 0), (5, .int 0), (4, .int x37), (0, .ref (ad 0)), (1, .int b), (2, .int to), (3, .int pn)]) hx hb dX9_counts_43 hl (by decide) rfl (fun ls hl => ?_)
        have loop45 : ∀ (n45 : Nat) (v6_45 : Int32) (v5_45 : Int32) (ct83 : Nat → va_E) (H : Heap) (locs : List Loc) (ls : Array Slot), ((8 - v6_45.toInt : Int).toNat < n45) → (0 ≤ v6_45.toInt ∧ v6_45.toInt ≤ 8) → (0 ≤ v5_45.toInt ∧ v5_45.toInt ≤ 8) → (v5_45.toInt ≤ v6_45.toInt) → (ct83 0 = ct 0) → (ct83 5 = ct 5) → (ct83 10 = ct 10) → (ct83 20 = ct 20) → (IR g ad me ct83) → zP g (zw 32 ad ct83) H → va_D A (zw 32 ad ct83) → va_S A s.heap H locs → lv_has ls 9 [(6, .int v6_45), (5, .int v5_45), (4, .int x37), (0, .ref (ad 0)), (1, .int b), (2, .int to), (3, .int pn)] → W p l e (headSpec (zW yX9_counts cX9_counts 9 (some .long)) ({ frames := 1, cells := 0, slots := 0, locals := 23 })).room s m ([.ref (ad 0), .int b, .int to, .int pn] : List Value).toArray below meth c H locs 0 0 (MQ below (va_Ql (fun (r : Int64) (_ : Unit) => (True)) (fun _ t => ∃ ct2 : Nat → va_E, zP g (zw 32 ad ct2) t.heap ∧ va_D A (zw 32 ad ct2) ∧ IR g ad me ct2 ∧ (ct2 0 = ct 0) ∧ (ct2 5 = ct 5) ∧ (ct2 10 = ct 10) ∧ (ct2 20 = ct 20)) A) ([.ref (ad 0), .int b, .int to, .int pn] : List Value).toArray s 0 0 A) (F0 m 45 ls []) := by
          intro n45
          induction n45 with
          | zero =>
            intro v6_45 v5_45 ct83 H locs ls hn45 b6_45 b5_45 j0_45 hc0 hc5 hc10 hc20 hI hP hD hS hl
            exact absurd hn45 (Nat.not_lt_zero _)
          | succ n45 ih45 =>
            intro v6_45 v5_45 ct83 H locs ls hn45 b6_45 b5_45 j0_45 hc0 hc5 hc10 hc20 hI hP hD hS hl
            refine lv_iload hx hb dX9_counts_45 (lv_at hl 0 rfl) ?_
            refine lv_aload_n hx hb dX9_counts_47 rfl (lv_at hl 3 rfl) ?_
            obtain ⟨bks85, lks86, gos87, shn88, tpd89, pl090, ln091, flt92, opn93, cmy94, wtg95, nm096, mst97, sus98, cut99, h100, h101, h102, h103, h104, h105, h106, h107, h108, h109, h110, h111, h112, h113, h114, h115, h116, h117, h118, h119, hs84⟩ := a9_0 hI.1
            refine va_get (D := g.1) (ci := 9) (v := .ref (ad 5)) (C := RX9) (T := TX9) (N := 47) hx hb hg inG9 hown hK hP 0 (zw_at (by omega) hs84) rfl 9 (by decide) (hg _ mm_967) (fun _ h9 => h9) rfl dX9_counts_48 ?_
            refine lv_iload_n hx hb dX9_counts_51 rfl (lv_at hl 4 rfl) ?_
            obtain ⟨f121, hp122, hs120⟩ := a9_5 hI.1
            refine va_iald hx hb hK hP 5 0 (zw_at (by omega) hs120) rfl (z_in rfl (by omega) (by omega)) dX9_counts_52 ?_
            refine lv_topi (fun y123 ey123 => ?_)
            have hy123 := hp122 _ (z_clt (x := b) rfl (by omega) (by omega))
            rw [← ey123] at hy123
            have hy123 : 0 ≤ y123.toInt ∧ y123.toInt ≤ 8 := hy123
            refine lv_icmp_ge (tgt := 163) hx hb dX9_counts_53 (by decide) (fun c124 => ?_) (fun c124 => ?_)
            · skip
              have c124 : y123.toInt ≤ v6_45.toInt := (z_le rfl rfl).mp c124
              refine lv_lconst (v := 0) hx hb dX9_counts_163 (by decide) ?_
              refine lv_lstore (lv' := [(6, .long 0), (5, .int v5_45), (4, .int x37), (0, .ref (ad 0)), (1, .int b), (2, .int to), (3, .int pn)]) hx hb dX9_counts_164 hl (by decide) rfl (fun ls hl => ?_)
              refine lv_iconst (v := 0) hx hb dX9_counts_166 (by decide) ?_
              refine lv_istore (lv' := [(8, .int 0), (6, .long 0), (5, .int v5_45), (4, .int x37), (0, .ref (ad 0)), (1, .int b), (2, .int to), (3, .int pn)]) hx hb dX9_counts_167 hl (by decide) rfl (fun ls hl => ?_)
              have loop169 : ∀ (n169 : Nat) (v8_169 : Int32) (v6_169 : Int64) (ct125 : Nat → va_E) (H : Heap) (locs : List Loc) (ls : Array Slot), ((65536 - v8_169.toInt : Int).toNat < n169) → (0 ≤ v8_169.toInt ∧ v8_169.toInt ≤ 65536) → (ct125 0 = ct 0) → (ct125 5 = ct 5) → (ct125 10 = ct 10) → (ct125 20 = ct 20) → (IR g ad me ct125) → zP g (zw 32 ad ct125) H → va_D A (zw 32 ad ct125) → va_S A s.heap H locs → lv_has ls 9 [(8, .int v8_169), (6, .long v6_169), (5, .int v5_45), (4, .int x37), (0, .ref (ad 0)), (1, .int b), (2, .int to), (3, .int pn)] → W p l e (headSpec (zW yX9_counts cX9_counts 9 (some .long)) ({ frames := 1, cells := 0, slots := 0, locals := 23 })).room s m ([.ref (ad 0), .int b, .int to, .int pn] : List Value).toArray below meth c H locs 0 0 (MQ below (va_Ql (fun (r : Int64) (_ : Unit) => (True)) (fun _ t => ∃ ct2 : Nat → va_E, zP g (zw 32 ad ct2) t.heap ∧ va_D A (zw 32 ad ct2) ∧ IR g ad me ct2 ∧ (ct2 0 = ct 0) ∧ (ct2 5 = ct 5) ∧ (ct2 10 = ct 10) ∧ (ct2 20 = ct 20)) A) ([.ref (ad 0), .int b, .int to, .int pn] : List Value).toArray s 0 0 A) (F0 m 169 ls []) := by
                intro n169
                induction n169 with
                | zero =>
                  intro v8_169 v6_169 ct125 H locs ls hn169 b8_169 hc0 hc5 hc10 hc20 hI hP hD hS hl
                  exact absurd hn169 (Nat.not_lt_zero _)
                | succ n169 ih169 =>
                  intro v8_169 v6_169 ct125 H locs ls hn169 b8_169 hc0 hc5 hc10 hc20 hI hP hD hS hl
                  refine lv_iload hx hb dX9_counts_169 (lv_at hl 0 rfl) ?_
                  refine lv_iload hx hb dX9_counts_171 (lv_at hl 3 rfl) ?_
                  refine lv_icmp_ge (tgt := 210) hx hb dX9_counts_173 (by decide) (fun c126 => ?_) (fun c126 => ?_)
                  · skip
                    have c126 : x37.toInt ≤ v8_169.toInt := (z_le rfl rfl).mp c126
                    refine lv_lload hx hb dX9_counts_210 (lv_at hl 1 rfl) ?_
                    exact W.lret (v := v6_169) hx hb hr (fun t ht hW => ⟨⟨v6_169, (), rfl, trivial, ct125, by rw [ht]; exact hP, hD, hI, (by first | assumption | omega), (by first | assumption | omega), (by first | assumption | omega), (by first | assumption | omega)⟩, hS.F ht⟩) hS.2.2 dX9_counts_212
                  · skip
                    have c126 : ¬ (x37.toInt ≤ v8_169.toInt) := fun q => c126 ((z_le rfl rfl).mpr q)
                    refine lv_lload hx hb dX9_counts_176 (lv_at hl 1 rfl) ?_
                    refine lv_aload_n hx hb dX9_counts_178 rfl (lv_at hl 4 rfl) ?_
                    obtain ⟨bks128, lks129, gos130, shn131, tpd132, pl0133, ln0134, flt135, opn136, cmy137, wtg138, nm0139, mst140, sus141, cut142, h143, h144, h145, h146, h147, h148, h149, h150, h151, h152, h153, h154, h155, h156, h157, h158, h159, h160, h161, h162, hs127⟩ := a9_0 hI.1
                    refine va_get (D := g.1) (ci := 9) (v := .ref (ad 22)) (C := RX9) (T := TX9) (N := 47) hx hb hg inG9 hown hK hP 0 (zw_at (by omega) hs127) rfl 34 (by decide) (hg _ mm_992) (fun _ h9 => h9) rfl dX9_counts_179 ?_
                    refine lv_iload hx hb dX9_counts_182 (lv_at hl 0 rfl) ?_
                    obtain ⟨f164, hs163⟩ := a9_22 hI.1
                    refine va_iald hx hb hK hP 22 0 (zw_at (by omega) hs163) rfl (z_in rfl (by omega) (by omega)) dX9_counts_184 ?_
                    refine lv_topi (fun y165 ey165 => ?_)
                    refine lv_iload hx hb dX9_counts_185 (lv_at hl 2 rfl) ?_
                    refine lv_icmp_ne (tgt := 200) hx hb dX9_counts_187 (by decide) (fun c166 => ?_) (fun c166 => ?_)
                    · skip
                      have c166 : ¬ (y165.toInt = v5_45.toInt) := fun q => c166 ((z_eq rfl rfl).mpr q)
                      refine lv_lconst (v := 0) hx hb dX9_counts_200 (by decide) ?_
                      refine lv_ladd hx hb dX9_counts_201 ?_
                      refine lv_topl (fun x167 ex167 => ?_)
                      refine lv_lstore (lv' := [(6, .long x167), (8, .int v8_169), (5, .int v5_45), (4, .int x37), (0, .ref (ad 0)), (1, .int b), (2, .int to), (3, .int pn)]) hx hb dX9_counts_202 hl (by decide) rfl (fun ls hl => ?_)
                      obtain ⟨x168, ex168⟩ : ∃ y : Int32, y = v8_169 + 1 := ⟨_, rfl⟩
                      have tx168 : x168.toInt = v8_169.toInt + 1 := by rw [ex168]; exact z_add rfl (by decide : (1 : Int32).toInt = 1) (by omega) (by omega)
                      refine lv_iinc (v := x168) (lv' := [(8, .int x168), (6, .long x167), (5, .int v5_45), (4, .int x37), (0, .ref (ad 0)), (1, .int b), (2, .int to), (3, .int pn)]) hx hb dX9_counts_204 hl (k := 1) rfl (by rw [ex168]; rfl) (by decide) rfl (fun ls hl => ?_)
                      refine lv_goto (tgt := 169) hx hb dX9_counts_207 (by decide) ?_
                      exact ih169 x168 x167 ct125 _ _ ls (by omega) (by first | assumption | omega | decide) (by first | assumption | omega | decide) (by first | assumption | omega | decide) (by first | assumption | omega | decide) (by first | assumption | omega | decide) hI hP hD hS (lv_sub hl [0, 1, 2, 3, 4, 5, 6, 7] rfl)
                    · skip
                      have c166 : y165.toInt = v5_45.toInt := (z_eq rfl rfl).mp c166
                      refine lv_aload_n hx hb dX9_counts_190 rfl (lv_at hl 4 rfl) ?_
                      refine va_get (D := g.1) (ci := 9) (v := .ref (ad 21)) (C := RX9) (T := TX9) (N := 47) hx hb hg inG9 hown hK hP 0 (zw_at (by omega) hs127) rfl 33 (by decide) (hg _ mm_991) (fun _ h9 => h9) rfl dX9_counts_191 ?_
                      refine lv_iload hx hb dX9_counts_194 (lv_at hl 0 rfl) ?_
                      obtain ⟨f170, hs169⟩ := a9_21 hI.1
                      refine va_lald hx hb hK hP 21 1 (zw_at (by omega) hs169) rfl (z_in rfl (by omega) (by omega)) dX9_counts_196 ?_
                      refine lv_topl (fun y171 ey171 => ?_)
                      refine lv_goto (tgt := 201) hx hb dX9_counts_197 (by decide) ?_
                      refine lv_ladd hx hb dX9_counts_201 ?_
                      refine lv_topl (fun x172 ex172 => ?_)
                      refine lv_lstore (lv' := [(6, .long x172), (8, .int v8_169), (5, .int v5_45), (4, .int x37), (0, .ref (ad 0)), (1, .int b), (2, .int to), (3, .int pn)]) hx hb dX9_counts_202 hl (by decide) rfl (fun ls hl => ?_)
                      obtain ⟨x173, ex173⟩ : ∃ y : Int32, y = v8_169 + 1 := ⟨_, rfl⟩
                      have tx173 : x173.toInt = v8_169.toInt + 1 := by rw [ex173]; exact z_add rfl (by decide : (1 : Int32).toInt = 1) (by omega) (by omega)
                      refine lv_iinc (v := x173) (lv' := [(8, .int x173), (6, .long x172), (5, .int v5_45), (4, .int x37), (0, .ref (ad 0)), (1, .int b), (2, .int to), (3, .int pn)]) hx hb dX9_counts_204 hl (k := 1) rfl (by rw [ex173]; rfl) (by decide) rfl (fun ls hl => ?_)
                      refine lv_goto (tgt := 169) hx hb dX9_counts_207 (by decide) ?_
                      exact ih169 x173 x172 ct125 _ _ ls (by omega) (by first | assumption | omega | decide) (by first | assumption | omega | decide) (by first | assumption | omega | decide) (by first | assumption | omega | decide) (by first | assumption | omega | decide) hI hP hD hS (lv_sub hl [0, 1, 2, 3, 4, 5, 6, 7] rfl)
              exact loop169 ((65536 - (0 : Int32).toInt : Int).toNat + 1) (0 : Int32) 0 ct83 _ _ ls (by omega) (by first | assumption | omega | decide) (by first | assumption | omega | decide) (by first | assumption | omega | decide) (by first | assumption | omega | decide) (by first | assumption | omega | decide) hI hP hD hS (lv_sub hl [0, 1, 2, 3, 4, 5, 6, 7] rfl)
            · skip
              have c124 : ¬ (y123.toInt ≤ v6_45.toInt) := fun q => c124 ((z_le rfl rfl).mpr q)
              refine lv_aload_n hx hb dX9_counts_56 rfl (lv_at hl 3 rfl) ?_
              refine va_get (D := g.1) (ci := 9) (v := .ref (ad 10)) (C := RX9) (T := TX9) (N := 47) hx hb hg inG9 hown hK hP 0 (zw_at (by omega) hs84) rfl 14 (by decide) (hg _ mm_972) (fun _ h9 => h9) rfl dX9_counts_57 ?_
              refine lv_iload_n hx hb dX9_counts_60 rfl (lv_at hl 4 rfl) ?_
              refine lv_iload hx hb dX9_counts_61 (lv_at hl 0 rfl) ?_
              refine zc_i (va_runS (As := [.int b, .int v6_45]) (rest := [.ref (ad 10)]) ⟨hx, hb, hml, hown, hg⟩ (k_X9_at l g ad me ct83 b v6_45 (by first | omega | decide) (by first | omega | decide) hI) (va_cwS 2 hg (z_gS mm_1159 mm_1160 mm_117 mm_1161) rfl rfl rfl (by decide +kernel) ⟨Nat.le_of_ble_eq_true rfl, Nat.le_of_ble_eq_true rfl⟩) (zR.pre [.int b, .int v6_45] hP hK hN) rfl rfl hl.1 rfl (lv_room (Nat.le_of_ble_eq_true rfl)) dX9_counts_63 ⟨Nat.le_of_ble_eq_true rfl, Nat.le_of_ble_eq_true rfl⟩) (fun r174 hr174 => ?_)
              have hr174_0 := hr174
              have hr174_0 : r174.toInt = 8 * b.toInt + v6_45.toInt := hr174_0
              obtain ⟨f176, hp177, hs175⟩ := a9_10 hI.1
              refine va_zald hx hb hK hP 10 3 (zw_at (by omega) hs175) rfl (z_in rfl (by omega) (by omega)) dX9_counts_66 ?_
              refine lv_topi (fun y178 ey178 => ?_)
              have hy178 := hp177 _ (z_clt (x := r174) rfl (by omega) (by omega))
              rw [← ey178] at hy178
              have hy178 : y178 = 0 ∨ y178 = 1 := hy178
              have by178 := z_b01 hy178
              refine lv_if_eq (tgt := 73) hx hb dX9_counts_67 (by decide) (fun c179 => ?_) (fun c179 => ?_)
              · skip
                have c179 : y178.toInt = 0 := (z_eq rfl (by decide : (0 : Int32).toInt = 0)).mp c179
                refine lv_iload hx hb dX9_counts_73 (lv_at hl 0 rfl) ?_
                refine lv_iload_n hx hb dX9_counts_75 rfl (lv_at hl 5 rfl) ?_
                refine lv_icmp_ne (tgt := 93) hx hb dX9_counts_76 (by decide) (fun c180 => ?_) (fun c180 => ?_)
                · skip
                  have c180 : ¬ (v6_45.toInt = to.toInt) := fun q => c180 ((z_eq rfl rfl).mpr q)
                  refine lv_aload_n hx hb dX9_counts_93 rfl (lv_at hl 3 rfl) ?_
                  refine va_get (D := g.1) (ci := 9) (v := .ref (ad 20)) (C := RX9) (T := TX9) (N := 47) hx hb hg inG9 hown hK hP 0 (zw_at (by omega) hs84) rfl 32 (by decide) (hg _ mm_990) (fun _ h9 => h9) rfl dX9_counts_94 ?_
                  refine lv_iload hx hb dX9_counts_97 (lv_at hl 0 rfl) ?_
                  obtain ⟨f182, hp183, hs181⟩ := a9_20 hI.1
                  refine va_iald hx hb hK hP 20 0 (zw_at (by omega) hs181) rfl (z_in rfl (by omega) (by omega)) dX9_counts_99 ?_
                  refine lv_topi (fun y184 ey184 => ?_)
                  have hy184 := hp183 _ (z_clt (x := v6_45) rfl (by omega) (by omega))
                  rw [← ey184] at hy184
                  have hy184 : 0 ≤ y184.toInt ∧ y184.toInt ≤ 65535 := hy184
                  refine lv_istore (lv' := [(7, .int y184), (6, .int v6_45), (5, .int v5_45), (4, .int x37), (0, .ref (ad 0)), (1, .int b), (2, .int to), (3, .int pn)]) hx hb dX9_counts_100 hl (by decide) rfl (fun ls hl => ?_)
                  refine lv_iload hx hb dX9_counts_102 (lv_at hl 3 rfl) ?_
                  refine lv_iconst (v := 1) hx hb dX9_counts_104 (by decide) ?_
                  refine lv_isub hx hb dX9_counts_105 ?_
                  refine lv_topi (fun x185 ex185 => ?_)
                  have tx185 : x185.toInt = x37.toInt - 1 := by rw [ex185]; exact z_sub rfl (by decide : (1 : Int32).toInt = 1) (by omega) (by omega)
                  refine lv_istore (lv' := [(8, .int x185), (7, .int y184), (6, .int v6_45), (5, .int v5_45), (4, .int x37), (0, .ref (ad 0)), (1, .int b), (2, .int to), (3, .int pn)]) hx hb dX9_counts_106 hl (by decide) rfl (fun ls hl => ?_)
                  have loop108 : ∀ (n108 : Nat) (v8_108 : Int32) (ct186 : Nat → va_E) (H : Heap) (locs : List Loc) (ls : Array Slot), ((v8_108.toInt + 1 : Int).toNat < n108) → (-1 ≤ v8_108.toInt ∧ v8_108.toInt ≤ 65535) → (ct186 0 = ct 0) → (ct186 5 = ct 5) → (ct186 10 = ct 10) → (ct186 20 = ct 20) → (IR g ad me ct186) → zP g (zw 32 ad ct186) H → va_D A (zw 32 ad ct186) → va_S A s.heap H locs → lv_has ls 9 [(8, .int v8_108), (7, .int y184), (6, .int v6_45), (5, .int v5_45), (4, .int x37), (0, .ref (ad 0)), (1, .int b), (2, .int to), (3, .int pn)] → W p l e (headSpec (zW yX9_counts cX9_counts 9 (some .long)) ({ frames := 1, cells := 0, slots := 0, locals := 23 })).room s m ([.ref (ad 0), .int b, .int to, .int pn] : List Value).toArray below meth c H locs 0 0 (MQ below (va_Ql (fun (r : Int64) (_ : Unit) => (True)) (fun _ t => ∃ ct2 : Nat → va_E, zP g (zw 32 ad ct2) t.heap ∧ va_D A (zw 32 ad ct2) ∧ IR g ad me ct2 ∧ (ct2 0 = ct 0) ∧ (ct2 5 = ct 5) ∧ (ct2 10 = ct 10) ∧ (ct2 20 = ct 20)) A) ([.ref (ad 0), .int b, .int to, .int pn] : List Value).toArray s 0 0 A) (F0 m 108 ls []) := by
                    intro n108
                    induction n108 with
                    | zero =>
                      intro v8_108 ct186 H locs ls hn108 b8_108 hc0 hc5 hc10 hc20 hI hP hD hS hl
                      exact absurd hn108 (Nat.not_lt_zero _)
                    | succ n108 ih108 =>
                      intro v8_108 ct186 H locs ls hn108 b8_108 hc0 hc5 hc10 hc20 hI hP hD hS hl
                      refine lv_iload hx hb dX9_counts_108 (lv_at hl 0 rfl) ?_
                      refine lv_if_lt (tgt := 151) hx hb dX9_counts_110 (by decide) (fun c187 => ?_) (fun c187 => ?_)
                      · skip
                        have c187 : v8_108.toInt < 0 := (z_lt rfl (by decide : (0 : Int32).toInt = 0)).mp c187
                        refine lv_iload hx hb dX9_counts_151 (lv_at hl 3 rfl) ?_
                        refine lv_iconst (v := 1) hx hb dX9_counts_153 (by decide) ?_
                        refine lv_iadd hx hb dX9_counts_154 ?_
                        refine lv_topi (fun x188 ex188 => ?_)
                        have tx188 : x188.toInt = v5_45.toInt + 1 := by rw [ex188]; exact z_add rfl (by decide : (1 : Int32).toInt = 1) (by omega) (by omega)
                        refine lv_istore (lv' := [(5, .int x188), (8, .int v8_108), (7, .int y184), (6, .int v6_45), (4, .int x37), (0, .ref (ad 0)), (1, .int b), (2, .int to), (3, .int pn)]) hx hb dX9_counts_155 hl (by decide) rfl (fun ls hl => ?_)
                        obtain ⟨x189, ex189⟩ : ∃ y : Int32, y = v6_45 + 1 := ⟨_, rfl⟩
                        have tx189 : x189.toInt = v6_45.toInt + 1 := by rw [ex189]; exact z_add rfl (by decide : (1 : Int32).toInt = 1) (by omega) (by omega)
                        refine lv_iinc (v := x189) (lv' := [(6, .int x189), (5, .int x188), (8, .int v8_108), (7, .int y184), (4, .int x37), (0, .ref (ad 0)), (1, .int b), (2, .int to), (3, .int pn)]) hx hb dX9_counts_157 hl (k := 3) rfl (by rw [ex189]; rfl) (by decide) rfl (fun ls hl => ?_)
                        refine lv_goto (tgt := 45) hx hb dX9_counts_160 (by decide) ?_
                        exact ih45 x189 x188 ct186 _ _ ls (by omega) (by first | assumption | omega | decide) (by first | assumption | omega | decide) (by first | assumption | omega | decide) (by first | assumption | omega | decide) (by first | assumption | omega | decide) (by first | assumption | omega | decide) (by first | assumption | omega | decide) hI hP hD hS (lv_sub hl [0, 1, 4, 5, 6, 7, 8] rfl)
                      · skip
                        have c187 : ¬ (v8_108.toInt < 0) := fun q => c187 ((z_lt rfl (by decide : (0 : Int32).toInt = 0)).mpr q)
                        refine lv_aload_n hx hb dX9_counts_113 rfl (lv_at hl 5 rfl) ?_
                        obtain ⟨bks191, lks192, gos193, shn194, tpd195, pl0196, ln0197, flt198, opn199, cmy200, wtg201, nm0202, mst203, sus204, cut205, h206, h207, h208, h209, h210, h211, h212, h213, h214, h215, h216, h217, h218, h219, h220, h221, h222, h223, h224, h225, hs190⟩ := a9_0 hI.1
                        refine va_get (D := g.1) (ci := 9) (v := .ref (ad 21)) (C := RX9) (T := TX9) (N := 47) hx hb hg inG9 hown hK hP 0 (zw_at (by omega) hs190) rfl 33 (by decide) (hg _ mm_991) (fun _ h9 => h9) rfl dX9_counts_114 ?_
                        refine lv_iload hx hb dX9_counts_117 (lv_at hl 0 rfl) ?_
                        obtain ⟨f227, hs226⟩ := a9_21 hI.1
                        refine va_lald hx hb hK hP 21 1 (zw_at (by omega) hs226) rfl (z_in rfl (by omega) (by omega)) dX9_counts_119 ?_
                        refine lv_topl (fun y228 ey228 => ?_)
                        refine lv_lconst (v := 0) hx hb dX9_counts_120 (by decide) ?_
                        refine W.lcmp hx hb dX9_counts_121 ?_
                        refine lv_if_le (tgt := 145) hx hb dX9_counts_122 (by decide) (fun c229 => ?_) (fun c229 => ?_)
                        · skip
                          have c229 := (lg_cmp_le _ _).mp c229
                          obtain ⟨x230, ex230⟩ : ∃ y : Int32, y = v8_108 + (-1) := ⟨_, rfl⟩
                          have tx230 : x230.toInt = v8_108.toInt + (-1) := by rw [ex230]; exact z_add rfl (by decide : ((-1) : Int32).toInt = (-1)) (by omega) (by omega)
                          refine lv_iinc (v := x230) (lv' := [(8, .int x230), (7, .int y184), (6, .int v6_45), (5, .int v5_45), (4, .int x37), (0, .ref (ad 0)), (1, .int b), (2, .int to), (3, .int pn)]) hx hb dX9_counts_145 hl (k := 0) rfl (by rw [ex230]; rfl) (by decide) rfl (fun ls hl => ?_)
                          refine lv_goto (tgt := 108) hx hb dX9_counts_148 (by decide) ?_
                          exact ih108 x230 ct186 _ _ ls (by omega) (by first | assumption | omega | decide) (by first | assumption | omega | decide) (by first | assumption | omega | decide) (by first | assumption | omega | decide) (by first | assumption | omega | decide) hI hP hD hS (lv_sub hl [0, 1, 2, 3, 4, 5, 6, 7, 8] rfl)
                        · skip
                          have c229 := fun q => c229 ((lg_cmp_le _ _).mpr q)
                          refine lv_aload_n hx hb dX9_counts_125 rfl (lv_at hl 5 rfl) ?_
                          refine va_get (D := g.1) (ci := 9) (v := .ref (ad 22)) (C := RX9) (T := TX9) (N := 47) hx hb hg inG9 hown hK hP 0 (zw_at (by omega) hs190) rfl 34 (by decide) (hg _ mm_992) (fun _ h9 => h9) rfl dX9_counts_126 ?_
                          refine lv_iload hx hb dX9_counts_129 (lv_at hl 0 rfl) ?_
                          obtain ⟨f232, hs231⟩ := a9_22 hI.1
                          refine va_iald hx hb hK hP 22 0 (zw_at (by omega) hs231) rfl (z_in rfl (by omega) (by omega)) dX9_counts_131 ?_
                          refine lv_topi (fun y233 ey233 => ?_)
                          refine lv_iload hx hb dX9_counts_132 (lv_at hl 3 rfl) ?_
                          refine lv_icmp_ne (tgt := 145) hx hb dX9_counts_134 (by decide) (fun c234 => ?_) (fun c234 => ?_)
                          · skip
                            have c234 : ¬ (y233.toInt = v5_45.toInt) := fun q => c234 ((z_eq rfl rfl).mpr q)
                            obtain ⟨x235, ex235⟩ : ∃ y : Int32, y = v8_108 + (-1) := ⟨_, rfl⟩
                            have tx235 : x235.toInt = v8_108.toInt + (-1) := by rw [ex235]; exact z_add rfl (by decide : ((-1) : Int32).toInt = (-1)) (by omega) (by omega)
                            refine lv_iinc (v := x235) (lv' := [(8, .int x235), (7, .int y184), (6, .int v6_45), (5, .int v5_45), (4, .int x37), (0, .ref (ad 0)), (1, .int b), (2, .int to), (3, .int pn)]) hx hb dX9_counts_145 hl (k := 0) rfl (by rw [ex235]; rfl) (by decide) rfl (fun ls hl => ?_)
                            refine lv_goto (tgt := 108) hx hb dX9_counts_148 (by decide) ?_
                            exact ih108 x235 ct186 _ _ ls (by omega) (by first | assumption | omega | decide) (by first | assumption | omega | decide) (by first | assumption | omega | decide) (by first | assumption | omega | decide) (by first | assumption | omega | decide) hI hP hD hS (lv_sub hl [0, 1, 2, 3, 4, 5, 6, 7, 8] rfl)
                          · skip
                            have c234 : y233.toInt = v5_45.toInt := (z_eq rfl rfl).mp c234
                            refine lv_aload_n hx hb dX9_counts_137 rfl (lv_at hl 5 rfl) ?_
                            refine lv_iload hx hb dX9_counts_138 (lv_at hl 0 rfl) ?_
                            refine lv_iload hx hb dX9_counts_140 (lv_at hl 1 rfl) ?_
                            have hFc := zw_free hD hS hA
                            refine va_callv (va_runV (As := [.int v8_108, .int y184]) (rest := []) ⟨hx, hb, hml, hown, hg⟩ (k_X9_spreads l g _ ad me ct186 v8_108 y184 (by first | omega | decide) (by first | omega | decide) hI) (cwV 2 hg (z_gV mm_1337 mm_1339 mm_87 mm_117 mm_1340) rfl rfl rfl (by decide +kernel) ⟨Nat.le_of_ble_eq_true rfl, Nat.le_of_ble_eq_true rfl⟩) ⟨(zA.pre [.ref (ad 0), .int v8_108, .int y184] hP hK hD hN).1, va_recv hK hP (ci := 9) (q0 := 0) rfl (zw_at (by omega) hs190), (zA.pre [.ref (ad 0), .int v8_108, .int y184] hP hK hD hN).2⟩ rfl rfl hl.1 rfl (lv_room (Nat.le_of_ble_eq_true rfl)) dX9_counts_142 ⟨Nat.le_of_ble_eq_true rfl, Nat.le_of_ble_eq_true rfl⟩) hS (fun q _ h => hFc q h) hFc (fun _ t H1 locs ht hvm hr236 hB hz1 hk1 hS => ?_)
                            obtain ⟨ct237, hP1, hD1, hI, hk238, hk239, hk240, hk241⟩ := hB
                            rw [ht] at hP1
                            have hD := hD1.weaken (fun _ _ _ h => hFc _ h)
                            generalize H1 = H at hP1 hS ⊢
                            have hP := hP1
                            refine W.widen (k := 0) (n := 0) (Nat.le_refl _) (Nat.le_refl _) ?_
                            have hc0 : ct237 0 = ct 0 := hk238.trans hc0
                            have hc5 : ct237 5 = ct 5 := hk239.trans hc5
                            have hc10 : ct237 10 = ct 10 := hk240.trans hc10
                            have hc20 : ct237 20 = ct 20 := hk241.trans hc20
                            have hs242 : ct237 0 = .inr (9, [.int me, .ref (ad 1), .ref (ad 2), .ref (ad 3), .ref (ad 4), .int bks191, .int lks192, .int gos193, .int shn194, .ref (ad 5), .ref (ad 6), .ref (ad 7), .ref (ad 8), .ref (ad 9), .ref (ad 10), .ref (ad 11), .int tpd195, .int pl0196, .int ln0197, .int flt198, .int opn199, .int cmy200, .int wtg201, .int nm0202, .ref (ad 12), .ref (ad 13), .ref (ad 14), .ref (ad 15), .ref (ad 16), .ref (ad 17), .ref (ad 18), .ref (ad 19), .ref (ad 20), .ref (ad 21), .ref (ad 22), .ref (ad 23), .ref (ad 24), .ref (ad 25), .ref (ad 26), .ref (ad 27), .int mst203, .int sus204, .ref (ad 28), .ref (ad 29), .ref (ad 30), .ref (ad 31), .int cut205]) := hk238.trans hs190
                            obtain ⟨x243, ex243⟩ : ∃ y : Int32, y = v8_108 + (-1) := ⟨_, rfl⟩
                            have tx243 : x243.toInt = v8_108.toInt + (-1) := by rw [ex243]; exact z_add rfl (by decide : ((-1) : Int32).toInt = (-1)) (by omega) (by omega)
                            refine lv_iinc (v := x243) (lv' := [(8, .int x243), (7, .int y184), (6, .int v6_45), (5, .int v5_45), (4, .int x37), (0, .ref (ad 0)), (1, .int b), (2, .int to), (3, .int pn)]) hx hb dX9_counts_145 hl (k := 0) rfl (by rw [ex243]; rfl) (by decide) rfl (fun ls hl => ?_)
                            refine lv_goto (tgt := 108) hx hb dX9_counts_148 (by decide) ?_
                            exact ih108 x243 ct237 _ _ ls (by omega) (by first | assumption | omega | decide) (by first | assumption | omega | decide) (by first | assumption | omega | decide) (by first | assumption | omega | decide) (by first | assumption | omega | decide) hI hP hD hS (lv_sub hl [0, 1, 2, 3, 4, 5, 6, 7, 8] rfl)
                  exact loop108 ((x185.toInt + 1 : Int).toNat + 1) x185 ct83 _ _ ls (by omega) (by first | assumption | omega | decide) (by first | assumption | omega | decide) (by first | assumption | omega | decide) (by first | assumption | omega | decide) (by first | assumption | omega | decide) hI hP hD hS (lv_sub hl [0, 1, 2, 3, 4, 5, 6, 7, 8] rfl)
                · skip
                  have c180 : v6_45.toInt = to.toInt := (z_eq rfl rfl).mp c180
                  refine lv_aload_n hx hb dX9_counts_79 rfl (lv_at hl 3 rfl) ?_
                  refine va_get (D := g.1) (ci := 9) (v := .ref (ad 20)) (C := RX9) (T := TX9) (N := 47) hx hb hg inG9 hown hK hP 0 (zw_at (by omega) hs84) rfl 32 (by decide) (hg _ mm_990) (fun _ h9 => h9) rfl dX9_counts_80 ?_
                  refine lv_iload hx hb dX9_counts_83 (lv_at hl 0 rfl) ?_
                  obtain ⟨f245, hp246, hs244⟩ := a9_20 hI.1
                  refine va_iald hx hb hK hP 20 0 (zw_at (by omega) hs244) rfl (z_in rfl (by omega) (by omega)) dX9_counts_85 ?_
                  refine lv_topi (fun y247 ey247 => ?_)
                  have hy247 := hp246 _ (z_clt (x := v6_45) rfl (by omega) (by omega))
                  rw [← ey247] at hy247
                  have hy247 : 0 ≤ y247.toInt ∧ y247.toInt ≤ 65535 := hy247
                  refine lv_iconst (v := 1) hx hb dX9_counts_86 (by decide) ?_
                  refine lv_iload_n hx hb dX9_counts_87 rfl (lv_at hl 6 rfl) ?_
                  refine lv_ishl hx hb dX9_counts_88 ?_
                  refine lv_topi (fun x248 ex248 => ?_)
                  refine lv_iand hx hb dX9_counts_89 ?_
                  refine lv_topi (fun x249 ex249 => ?_)
                  have tx249 := z_andl (x := y247) (y := x248) rfl (by omega)
                  rw [← ex249] at tx249
                  refine lv_goto (tgt := 100) hx hb dX9_counts_90 (by decide) ?_
                  refine lv_istore (lv' := [(7, .int x249), (6, .int v6_45), (5, .int v5_45), (4, .int x37), (0, .ref (ad 0)), (1, .int b), (2, .int to), (3, .int pn)]) hx hb dX9_counts_100 hl (by decide) rfl (fun ls hl => ?_)
                  refine lv_iload hx hb dX9_counts_102 (lv_at hl 3 rfl) ?_
                  refine lv_iconst (v := 1) hx hb dX9_counts_104 (by decide) ?_
                  refine lv_isub hx hb dX9_counts_105 ?_
                  refine lv_topi (fun x250 ex250 => ?_)
                  have tx250 : x250.toInt = x37.toInt - 1 := by rw [ex250]; exact z_sub rfl (by decide : (1 : Int32).toInt = 1) (by omega) (by omega)
                  refine lv_istore (lv' := [(8, .int x250), (7, .int x249), (6, .int v6_45), (5, .int v5_45), (4, .int x37), (0, .ref (ad 0)), (1, .int b), (2, .int to), (3, .int pn)]) hx hb dX9_counts_106 hl (by decide) rfl (fun ls hl => ?_)
                  have loop108 : ∀ (n108 : Nat) (v8_108 : Int32) (ct251 : Nat → va_E) (H : Heap) (locs : List Loc) (ls : Array Slot), ((v8_108.toInt + 1 : Int).toNat < n108) → (-1 ≤ v8_108.toInt ∧ v8_108.toInt ≤ 65535) → (ct251 0 = ct 0) → (ct251 5 = ct 5) → (ct251 10 = ct 10) → (ct251 20 = ct 20) → (IR g ad me ct251) → zP g (zw 32 ad ct251) H → va_D A (zw 32 ad ct251) → va_S A s.heap H locs → lv_has ls 9 [(8, .int v8_108), (7, .int x249), (6, .int v6_45), (5, .int v5_45), (4, .int x37), (0, .ref (ad 0)), (1, .int b), (2, .int to), (3, .int pn)] → W p l e (headSpec (zW yX9_counts cX9_counts 9 (some .long)) ({ frames := 1, cells := 0, slots := 0, locals := 23 })).room s m ([.ref (ad 0), .int b, .int to, .int pn] : List Value).toArray below meth c H locs 0 0 (MQ below (va_Ql (fun (r : Int64) (_ : Unit) => (True)) (fun _ t => ∃ ct2 : Nat → va_E, zP g (zw 32 ad ct2) t.heap ∧ va_D A (zw 32 ad ct2) ∧ IR g ad me ct2 ∧ (ct2 0 = ct 0) ∧ (ct2 5 = ct 5) ∧ (ct2 10 = ct 10) ∧ (ct2 20 = ct 20)) A) ([.ref (ad 0), .int b, .int to, .int pn] : List Value).toArray s 0 0 A) (F0 m 108 ls []) := by
                    intro n108
                    induction n108 with
                    | zero =>
                      intro v8_108 ct251 H locs ls hn108 b8_108 hc0 hc5 hc10 hc20 hI hP hD hS hl
                      exact absurd hn108 (Nat.not_lt_zero _)
                    | succ n108 ih108 =>
                      intro v8_108 ct251 H locs ls hn108 b8_108 hc0 hc5 hc10 hc20 hI hP hD hS hl
                      refine lv_iload hx hb dX9_counts_108 (lv_at hl 0 rfl) ?_
                      refine lv_if_lt (tgt := 151) hx hb dX9_counts_110 (by decide) (fun c252 => ?_) (fun c252 => ?_)
                      · skip
                        have c252 : v8_108.toInt < 0 := (z_lt rfl (by decide : (0 : Int32).toInt = 0)).mp c252
                        refine lv_iload hx hb dX9_counts_151 (lv_at hl 3 rfl) ?_
                        refine lv_iconst (v := 1) hx hb dX9_counts_153 (by decide) ?_
                        refine lv_iadd hx hb dX9_counts_154 ?_
                        refine lv_topi (fun x253 ex253 => ?_)
                        have tx253 : x253.toInt = v5_45.toInt + 1 := by rw [ex253]; exact z_add rfl (by decide : (1 : Int32).toInt = 1) (by omega) (by omega)
                        refine lv_istore (lv' := [(5, .int x253), (8, .int v8_108), (7, .int x249), (6, .int v6_45), (4, .int x37), (0, .ref (ad 0)), (1, .int b), (2, .int to), (3, .int pn)]) hx hb dX9_counts_155 hl (by decide) rfl (fun ls hl => ?_)
                        obtain ⟨x254, ex254⟩ : ∃ y : Int32, y = v6_45 + 1 := ⟨_, rfl⟩
                        have tx254 : x254.toInt = v6_45.toInt + 1 := by rw [ex254]; exact z_add rfl (by decide : (1 : Int32).toInt = 1) (by omega) (by omega)
                        refine lv_iinc (v := x254) (lv' := [(6, .int x254), (5, .int x253), (8, .int v8_108), (7, .int x249), (4, .int x37), (0, .ref (ad 0)), (1, .int b), (2, .int to), (3, .int pn)]) hx hb dX9_counts_157 hl (k := 3) rfl (by rw [ex254]; rfl) (by decide) rfl (fun ls hl => ?_)
                        refine lv_goto (tgt := 45) hx hb dX9_counts_160 (by decide) ?_
                        exact ih45 x254 x253 ct251 _ _ ls (by omega) (by first | assumption | omega | decide) (by first | assumption | omega | decide) (by first | assumption | omega | decide) (by first | assumption | omega | decide) (by first | assumption | omega | decide) (by first | assumption | omega | decide) (by first | assumption | omega | decide) hI hP hD hS (lv_sub hl [0, 1, 4, 5, 6, 7, 8] rfl)
                      · skip
                        have c252 : ¬ (v8_108.toInt < 0) := fun q => c252 ((z_lt rfl (by decide : (0 : Int32).toInt = 0)).mpr q)
                        refine lv_aload_n hx hb dX9_counts_113 rfl (lv_at hl 5 rfl) ?_
                        obtain ⟨bks256, lks257, gos258, shn259, tpd260, pl0261, ln0262, flt263, opn264, cmy265, wtg266, nm0267, mst268, sus269, cut270, h271, h272, h273, h274, h275, h276, h277, h278, h279, h280, h281, h282, h283, h284, h285, h286, h287, h288, h289, h290, hs255⟩ := a9_0 hI.1
                        refine va_get (D := g.1) (ci := 9) (v := .ref (ad 21)) (C := RX9) (T := TX9) (N := 47) hx hb hg inG9 hown hK hP 0 (zw_at (by omega) hs255) rfl 33 (by decide) (hg _ mm_991) (fun _ h9 => h9) rfl dX9_counts_114 ?_
                        refine lv_iload hx hb dX9_counts_117 (lv_at hl 0 rfl) ?_
                        obtain ⟨f292, hs291⟩ := a9_21 hI.1
                        refine va_lald hx hb hK hP 21 1 (zw_at (by omega) hs291) rfl (z_in rfl (by omega) (by omega)) dX9_counts_119 ?_
                        refine lv_topl (fun y293 ey293 => ?_)
                        refine lv_lconst (v := 0) hx hb dX9_counts_120 (by decide) ?_
                        refine W.lcmp hx hb dX9_counts_121 ?_
                        refine lv_if_le (tgt := 145) hx hb dX9_counts_122 (by decide) (fun c294 => ?_) (fun c294 => ?_)
                        · skip
                          have c294 := (lg_cmp_le _ _).mp c294
                          obtain ⟨x295, ex295⟩ : ∃ y : Int32, y = v8_108 + (-1) := ⟨_, rfl⟩
                          have tx295 : x295.toInt = v8_108.toInt + (-1) := by rw [ex295]; exact z_add rfl (by decide : ((-1) : Int32).toInt = (-1)) (by omega) (by omega)
                          refine lv_iinc (v := x295) (lv' := [(8, .int x295), (7, .int x249), (6, .int v6_45), (5, .int v5_45), (4, .int x37), (0, .ref (ad 0)), (1, .int b), (2, .int to), (3, .int pn)]) hx hb dX9_counts_145 hl (k := 0) rfl (by rw [ex295]; rfl) (by decide) rfl (fun ls hl => ?_)
                          refine lv_goto (tgt := 108) hx hb dX9_counts_148 (by decide) ?_
                          exact ih108 x295 ct251 _ _ ls (by omega) (by first | assumption | omega | decide) (by first | assumption | omega | decide) (by first | assumption | omega | decide) (by first | assumption | omega | decide) (by first | assumption | omega | decide) hI hP hD hS (lv_sub hl [0, 1, 2, 3, 4, 5, 6, 7, 8] rfl)
                        · skip
                          have c294 := fun q => c294 ((lg_cmp_le _ _).mpr q)
                          refine lv_aload_n hx hb dX9_counts_125 rfl (lv_at hl 5 rfl) ?_
                          refine va_get (D := g.1) (ci := 9) (v := .ref (ad 22)) (C := RX9) (T := TX9) (N := 47) hx hb hg inG9 hown hK hP 0 (zw_at (by omega) hs255) rfl 34 (by decide) (hg _ mm_992) (fun _ h9 => h9) rfl dX9_counts_126 ?_
                          refine lv_iload hx hb dX9_counts_129 (lv_at hl 0 rfl) ?_
                          obtain ⟨f297, hs296⟩ := a9_22 hI.1
                          refine va_iald hx hb hK hP 22 0 (zw_at (by omega) hs296) rfl (z_in rfl (by omega) (by omega)) dX9_counts_131 ?_
                          refine lv_topi (fun y298 ey298 => ?_)
                          refine lv_iload hx hb dX9_counts_132 (lv_at hl 3 rfl) ?_
                          refine lv_icmp_ne (tgt := 145) hx hb dX9_counts_134 (by decide) (fun c299 => ?_) (fun c299 => ?_)
                          · skip
                            have c299 : ¬ (y298.toInt = v5_45.toInt) := fun q => c299 ((z_eq rfl rfl).mpr q)
                            obtain ⟨x300, ex300⟩ : ∃ y : Int32, y = v8_108 + (-1) := ⟨_, rfl⟩
                            have tx300 : x300.toInt = v8_108.toInt + (-1) := by rw [ex300]; exact z_add rfl (by decide : ((-1) : Int32).toInt = (-1)) (by omega) (by omega)
                            refine lv_iinc (v := x300) (lv' := [(8, .int x300), (7, .int x249), (6, .int v6_45), (5, .int v5_45), (4, .int x37), (0, .ref (ad 0)), (1, .int b), (2, .int to), (3, .int pn)]) hx hb dX9_counts_145 hl (k := 0) rfl (by rw [ex300]; rfl) (by decide) rfl (fun ls hl => ?_)
                            refine lv_goto (tgt := 108) hx hb dX9_counts_148 (by decide) ?_
                            exact ih108 x300 ct251 _ _ ls (by omega) (by first | assumption | omega | decide) (by first | assumption | omega | decide) (by first | assumption | omega | decide) (by first | assumption | omega | decide) (by first | assumption | omega | decide) hI hP hD hS (lv_sub hl [0, 1, 2, 3, 4, 5, 6, 7, 8] rfl)
                          · skip
                            have c299 : y298.toInt = v5_45.toInt := (z_eq rfl rfl).mp c299
                            refine lv_aload_n hx hb dX9_counts_137 rfl (lv_at hl 5 rfl) ?_
                            refine lv_iload hx hb dX9_counts_138 (lv_at hl 0 rfl) ?_
                            refine lv_iload hx hb dX9_counts_140 (lv_at hl 1 rfl) ?_
                            have hFc := zw_free hD hS hA
                            refine va_callv (va_runV (As := [.int v8_108, .int x249]) (rest := []) ⟨hx, hb, hml, hown, hg⟩ (k_X9_spreads l g _ ad me ct251 v8_108 x249 (by first | omega | decide) (by first | omega | decide) hI) (cwV 2 hg (z_gV mm_1337 mm_1339 mm_87 mm_117 mm_1340) rfl rfl rfl (by decide +kernel) ⟨Nat.le_of_ble_eq_true rfl, Nat.le_of_ble_eq_true rfl⟩) ⟨(zA.pre [.ref (ad 0), .int v8_108, .int x249] hP hK hD hN).1, va_recv hK hP (ci := 9) (q0 := 0) rfl (zw_at (by omega) hs255), (zA.pre [.ref (ad 0), .int v8_108, .int x249] hP hK hD hN).2⟩ rfl rfl hl.1 rfl (lv_room (Nat.le_of_ble_eq_true rfl)) dX9_counts_142 ⟨Nat.le_of_ble_eq_true rfl, Nat.le_of_ble_eq_true rfl⟩) hS (fun q _ h => hFc q h) hFc (fun _ t H1 locs ht hvm hr301 hB hz1 hk1 hS => ?_)
                            obtain ⟨ct302, hP1, hD1, hI, hk303, hk304, hk305, hk306⟩ := hB
                            rw [ht] at hP1
                            have hD := hD1.weaken (fun _ _ _ h => hFc _ h)
                            generalize H1 = H at hP1 hS ⊢
                            have hP := hP1
                            refine W.widen (k := 0) (n := 0) (Nat.le_refl _) (Nat.le_refl _) ?_
                            have hc0 : ct302 0 = ct 0 := hk303.trans hc0
                            have hc5 : ct302 5 = ct 5 := hk304.trans hc5
                            have hc10 : ct302 10 = ct 10 := hk305.trans hc10
                            have hc20 : ct302 20 = ct 20 := hk306.trans hc20
                            have hs307 : ct302 0 = .inr (9, [.int me, .ref (ad 1), .ref (ad 2), .ref (ad 3), .ref (ad 4), .int bks256, .int lks257, .int gos258, .int shn259, .ref (ad 5), .ref (ad 6), .ref (ad 7), .ref (ad 8), .ref (ad 9), .ref (ad 10), .ref (ad 11), .int tpd260, .int pl0261, .int ln0262, .int flt263, .int opn264, .int cmy265, .int wtg266, .int nm0267, .ref (ad 12), .ref (ad 13), .ref (ad 14), .ref (ad 15), .ref (ad 16), .ref (ad 17), .ref (ad 18), .ref (ad 19), .ref (ad 20), .ref (ad 21), .ref (ad 22), .ref (ad 23), .ref (ad 24), .ref (ad 25), .ref (ad 26), .ref (ad 27), .int mst268, .int sus269, .ref (ad 28), .ref (ad 29), .ref (ad 30), .ref (ad 31), .int cut270]) := hk303.trans hs255
                            obtain ⟨x308, ex308⟩ : ∃ y : Int32, y = v8_108 + (-1) := ⟨_, rfl⟩
                            have tx308 : x308.toInt = v8_108.toInt + (-1) := by rw [ex308]; exact z_add rfl (by decide : ((-1) : Int32).toInt = (-1)) (by omega) (by omega)
                            refine lv_iinc (v := x308) (lv' := [(8, .int x308), (7, .int x249), (6, .int v6_45), (5, .int v5_45), (4, .int x37), (0, .ref (ad 0)), (1, .int b), (2, .int to), (3, .int pn)]) hx hb dX9_counts_145 hl (k := 0) rfl (by rw [ex308]; rfl) (by decide) rfl (fun ls hl => ?_)
                            refine lv_goto (tgt := 108) hx hb dX9_counts_148 (by decide) ?_
                            exact ih108 x308 ct302 _ _ ls (by omega) (by first | assumption | omega | decide) (by first | assumption | omega | decide) (by first | assumption | omega | decide) (by first | assumption | omega | decide) (by first | assumption | omega | decide) hI hP hD hS (lv_sub hl [0, 1, 2, 3, 4, 5, 6, 7, 8] rfl)
                  exact loop108 ((x250.toInt + 1 : Int).toNat + 1) x250 ct83 _ _ ls (by omega) (by first | assumption | omega | decide) (by first | assumption | omega | decide) (by first | assumption | omega | decide) (by first | assumption | omega | decide) (by first | assumption | omega | decide) hI hP hD hS (lv_sub hl [0, 1, 2, 3, 4, 5, 6, 7, 8] rfl)
              · skip
                have c179 : ¬ (y178.toInt = 0) := fun q => c179 ((z_eq rfl (by decide : (0 : Int32).toInt = 0)).mpr q)
                refine lv_goto (tgt := 157) hx hb dX9_counts_70 (by decide) ?_
                obtain ⟨x309, ex309⟩ : ∃ y : Int32, y = v6_45 + 1 := ⟨_, rfl⟩
                have tx309 : x309.toInt = v6_45.toInt + 1 := by rw [ex309]; exact z_add rfl (by decide : (1 : Int32).toInt = 1) (by omega) (by omega)
                refine lv_iinc (v := x309) (lv' := [(6, .int x309), (5, .int v5_45), (4, .int x37), (0, .ref (ad 0)), (1, .int b), (2, .int to), (3, .int pn)]) hx hb dX9_counts_157 hl (k := 0) rfl (by rw [ex309]; rfl) (by decide) rfl (fun ls hl => ?_)
                refine lv_goto (tgt := 45) hx hb dX9_counts_160 (by decide) ?_
                exact ih45 x309 v5_45 ct83 _ _ ls (by omega) (by first | assumption | omega | decide) (by first | assumption | omega | decide) (by first | assumption | omega | decide) (by first | assumption | omega | decide) (by first | assumption | omega | decide) (by first | assumption | omega | decide) (by first | assumption | omega | decide) hI hP hD hS (lv_sub hl [0, 1, 2, 3, 4, 5, 6] rfl)
        exact loop45 ((8 - (0 : Int32).toInt : Int).toNat + 1) (0 : Int32) (0 : Int32) ct79 _ _ ls (by omega) (by first | assumption | omega | decide) (by first | assumption | omega | decide) (by first | assumption | omega | decide) (by first | assumption | omega | decide) (by first | assumption | omega | decide) (by first | assumption | omega | decide) (by first | assumption | omega | decide) hI hP hD hS (lv_sub hl [0, 1, 2, 3, 4, 5, 6] rfl)
      · skip
        have c39 : ¬ (x37.toInt ≤ v5_11.toInt) := fun q => c39 ((z_le rfl rfl).mpr q)
        refine lv_aload_n hx hb dX9_counts_18 rfl (lv_at hl 2 rfl) ?_
        obtain ⟨bks311, lks312, gos313, shn314, tpd315, pl0316, ln0317, flt318, opn319, cmy320, wtg321, nm0322, mst323, sus324, cut325, h326, h327, h328, h329, h330, h331, h332, h333, h334, h335, h336, h337, h338, h339, h340, h341, h342, h343, h344, h345, hs310⟩ := a9_0 hI.1
        refine va_get (D := g.1) (ci := 9) (v := .ref (ad 21)) (C := RX9) (T := TX9) (N := 47) hx hb hg inG9 hown hK hP 0 (zw_at (by omega) hs310) rfl 33 (by decide) (hg _ mm_991) (fun _ h9 => h9) rfl dX9_counts_19 ?_
        refine lv_iload hx hb dX9_counts_22 (lv_at hl 0 rfl) ?_
        refine lv_lconst (v := 0) hx hb dX9_counts_24 (by decide) ?_
        obtain ⟨f347, hs346⟩ := a9_21 hI.1
        refine va_last hx hb hK hP hD hS 21 1 (zw_at (by omega) hs346) rfl (z_in rfl (by omega) (by omega)) dX9_counts_25 (fun H locs hP hD hS => ?_)
        have hP : zP g ((zw 32 ad ct38).set 21 (ad 21, .inl (g.2 1, 65536, .inr (.inl (vp_updL f347 (Int32.toNatClampNeg v5_11) 0))))) H := hP
        have hD : va_D A ((zw 32 ad ct38).set 21 (ad 21, .inl (g.2 1, 65536, .inr (.inl (vp_updL f347 (Int32.toNatClampNeg v5_11) 0))))) := hD
        rw [zw_set (by omega)] at hP hD
        obtain ⟨ct349, ec350⟩ : ∃ z : Nat → va_E, z = va_up ct38 21 (.inl (g.2 1, 65536, .inr (.inl (vp_updL f347 (Int32.toNatClampNeg v5_11) 0)))) := ⟨_, rfl⟩
        rw [← ec350] at hP hD
        have hI : IR g ad me ct349 := by rw [ec350]; exact upR hI (by decide) (i9_21 ⟨_, rfl⟩)
        have hc0 : ct349 0 = ct 0 := by rw [ec350]; exact (va_up_ne _ _ (by omega)).trans hc0
        have hc5 : ct349 5 = ct 5 := by rw [ec350]; exact (va_up_ne _ _ (by omega)).trans hc5
        have hc10 : ct349 10 = ct 10 := by rw [ec350]; exact (va_up_ne _ _ (by omega)).trans hc10
        have hc20 : ct349 20 = ct 20 := by rw [ec350]; exact (va_up_ne _ _ (by omega)).trans hc20
        have hs351 : ct349 0 = .inr (9, [.int me, .ref (ad 1), .ref (ad 2), .ref (ad 3), .ref (ad 4), .int bks311, .int lks312, .int gos313, .int shn314, .ref (ad 5), .ref (ad 6), .ref (ad 7), .ref (ad 8), .ref (ad 9), .ref (ad 10), .ref (ad 11), .int tpd315, .int pl0316, .int ln0317, .int flt318, .int opn319, .int cmy320, .int wtg321, .int nm0322, .ref (ad 12), .ref (ad 13), .ref (ad 14), .ref (ad 15), .ref (ad 16), .ref (ad 17), .ref (ad 18), .ref (ad 19), .ref (ad 20), .ref (ad 21), .ref (ad 22), .ref (ad 23), .ref (ad 24), .ref (ad 25), .ref (ad 26), .ref (ad 27), .int mst323, .int sus324, .ref (ad 28), .ref (ad 29), .ref (ad 30), .ref (ad 31), .int cut325]) := by rw [ec350, va_up_ne _ _ (by omega)]; exact hs310
        have hs352 : ct349 21 = .inl (g.2 1, 65536, .inr (.inl (vp_updL f347 (Int32.toNatClampNeg v5_11) 0))) := by rw [ec350]; exact va_up_self _ _ _
        obtain ⟨x353, ex353⟩ : ∃ y : Int32, y = v5_11 + 1 := ⟨_, rfl⟩
        have tx353 : x353.toInt = v5_11.toInt + 1 := by rw [ex353]; exact z_add rfl (by decide : (1 : Int32).toInt = 1) (by omega) (by omega)
        refine lv_iinc (v := x353) (lv' := [(5, .int x353), (4, .int x37), (0, .ref (ad 0)), (1, .int b), (2, .int to), (3, .int pn)]) hx hb dX9_counts_26 hl (k := 0) rfl (by rw [ex353]; rfl) (by decide) rfl (fun ls hl => ?_)
        refine lv_goto (tgt := 11) hx hb dX9_counts_29 (by decide) ?_
        exact ih11 x353 ct349 _ _ ls (by omega) (by first | assumption | omega | decide) (by first | assumption | omega | decide) (by first | assumption | omega | decide) (by first | assumption | omega | decide) (by first | assumption | omega | decide) hI hP hD hS (lv_sub hl [0, 1, 2, 3, 4, 5] rfl)
  exact loop11 ((65536 - (0 : Int32).toInt : Int).toNat + 1) (0 : Int32) ct _ _ ls (by omega) (by first | assumption | omega | decide) (by first | assumption | omega | decide) (by first | assumption | omega | decide) (by first | assumption | omega | decide) (by first | assumption | omega | decide) hI hP hD hS (lv_sub hl [0, 1, 2, 3, 4, 5] rfl)

set_option maxHeartbeats 4000000 in
set_option maxRecDepth 100000 in
theorem k_X9_givings (l : Launch) (g : zG) (sz : Nat) (ad : Nat → Nat) (me : Int32) (ct : Nat → va_E) (b : Int32) (kn : Int32) (hI : IR g ad me ct) : Met l yX9_givings (zW yX9_givings cX9_givings 3 (some .long)) ({ frames := 6, cells := 0, slots := 0, locals := 148 }) (va_Pc [.ref (ad 0), .int b, .int kn] (zA g (zw 32 ad ct) sz)) (va_Ql (fun (r : Int64) (_ : Unit) => (True)) (fun _ t => ∃ ct2 : Nat → va_E, zP g (zw 32 ad ct2) t.heap ∧ va_D (va_A (zw 32 ad ct) sz) (zw 32 ad ct2) ∧ IR g ad me ct2) (va_A (zw 32 ad ct) sz)) 0 0 (va_A (zw 32 ad ct) sz) := by
  refine Met.ofW (cc := cX9_givings) (maxL := 3) (ret := (some .long)) (by decide) rfl ?_
  intro p e s m args below meth c s₁ B hml hv
  obtain ⟨rfl, hsz, hP, hK, hD0, hN⟩ := hv
  have hx := B.exec
  have hb := B.bytes
  have hr := B.returns
  have hg := zW.law (atoms_spec (ws := (zW yX9_givings cX9_givings 3 (some .long))) B.pre)
  have hown : s.vm.findClass RX9 = some m.cls := findClass_of_methodNamed B.named
  have hlocks := B.notSynchronized
  have hpe0 := hI.1.1
  subst hsz
  have hD := hD0.self (sz := s.heap.size)
  generalize hAe : va_A (zw 32 ad ct) s.heap.size = A at hD ⊢
  have hA : ∀ q : Nat, s.heap.size ≤ q → A q := fun q h => by rw [← hAe]; exact Or.inr h
  have hS : va_S A s.heap s.heap [] := va_S.rf
  have hl := lv_entry ([.ref (ad 0), .int b, .int kn]) (n := 3) (Nat.le_of_ble_eq_true rfl)
  rw [lg_entry_eq]
  generalize (lg_sl ([.ref (ad 0), .int b, .int kn]) ++ List.replicate (3 - (lg_sl ([.ref (ad 0), .int b, .int kn])).length) Slot.unset).toArray = ls at hl ⊢
  have hl : lv_has ls 3 [(0, .ref (ad 0)), (1, .int b), (2, .int kn)] := hl
  have rg_b := z_rng b
  have rg_kn := z_rng kn
  refine lv_aload_n hx hb dX9_givings_0 rfl (lv_at hl 0 rfl) ?_
  refine lv_iload_n hx hb dX9_givings_1 rfl (lv_at hl 1 rfl) ?_
  obtain ⟨bks2, lks3, gos4, shn5, tpd6, pl07, ln08, flt9, opn10, cmy11, wtg12, nm013, mst14, sus15, cut16, h17, h18, h19, h20, h21, h22, h23, h24, h25, h26, h27, h28, h29, h30, h31, h32, h33, h34, h35, h36, hs1⟩ := a9_0 hI.1
  refine zc_i (va_runV (As := [.int b]) (rest := []) ⟨hx, hb, hml, hown, hg⟩ (k_X9_isBook l g ad me ct b hI) (cwV 1 hg (z_gV mm_1174 mm_1176 mm_58 mm_117 mm_1177) rfl rfl rfl (by decide +kernel) ⟨Nat.le_of_ble_eq_true rfl, Nat.le_of_ble_eq_true rfl⟩) ⟨(zR.pre [.ref (ad 0), .int b] hP hK hN).1, va_recv hK hP (ci := 9) (q0 := 0) rfl (zw_at (by omega) hs1), (zR.pre [.ref (ad 0), .int b] hP hK hN).2⟩ rfl rfl hl.1 rfl (lv_room (Nat.le_of_ble_eq_true rfl)) dX9_givings_2 ⟨Nat.le_of_ble_eq_true rfl, Nat.le_of_ble_eq_true rfl⟩) (fun r37 hr37 => ?_)
  rcases hr37 with hr37 | hr37
  · skip
    obtain ⟨rfl, h38, h39⟩ := hr37
    replace h38 : 0 ≤ b.toInt := h38
    replace h39 : b.toInt ≤ 3 := h39
    refine lv_if_eq (tgt := 15) hx hb dX9_givings_5 (by decide) (fun c40 => ?_) (fun c40 => ?_)
    · skip
      exact absurd c40 (by decide)
    · skip
      refine lv_iload_n hx hb dX9_givings_8 rfl (lv_at hl 2 rfl) ?_
      refine zc_i (va_runS (As := [.int kn]) (rest := []) ⟨hx, hb, hml, hown, hg⟩ (k_X9_isKnown l g ad me ct kn hI) (va_cwS 1 hg (z_gS mm_1294 mm_1295 mm_117 mm_1296) rfl rfl rfl (by decide +kernel) ⟨Nat.le_of_ble_eq_true rfl, Nat.le_of_ble_eq_true rfl⟩) (zR.pre [.int kn] hP hK hN) rfl rfl hl.1 rfl (lv_room (Nat.le_of_ble_eq_true rfl)) dX9_givings_9 ⟨Nat.le_of_ble_eq_true rfl, Nat.le_of_ble_eq_true rfl⟩) (fun r41 hr41 => ?_)
      rcases hr41 with hr41 | hr41
      · skip
        obtain ⟨rfl, h42, h43⟩ := hr41
        replace h42 : 0 ≤ kn.toInt := h42
        replace h43 : kn.toInt ≤ 255 := h43
        refine lv_if_ne (tgt := 19) hx hb dX9_givings_12 (by decide) (fun c44 => ?_) (fun c44 => ?_)
        · skip
          refine lv_aload_n hx hb dX9_givings_19 rfl (lv_at hl 0 rfl) ?_
          refine lv_iload_n hx hb dX9_givings_20 rfl (lv_at hl 1 rfl) ?_
          refine lv_iload_n hx hb dX9_givings_21 rfl (lv_at hl 2 rfl) ?_
          have hFc := zw_free hD hS hA
          refine va_callv (va_runV (As := [.int b, .int kn]) (rest := []) ⟨hx, hb, hml, hown, hg⟩ (k_X9_laysFitting l g _ ad me ct b kn (by first | omega | decide) (by first | omega | decide) hI) (cwV 2 hg (z_gV mm_1329 mm_1331 mm_85 mm_117 mm_1332) rfl rfl rfl (by decide +kernel) ⟨Nat.le_of_ble_eq_true rfl, Nat.le_of_ble_eq_true rfl⟩) ⟨(zA.pre [.ref (ad 0), .int b, .int kn] hP hK hD hN).1, va_recv hK hP (ci := 9) (q0 := 0) rfl (zw_at (by omega) hs1), (zA.pre [.ref (ad 0), .int b, .int kn] hP hK hD hN).2⟩ rfl rfl hl.1 rfl (lv_room (Nat.le_of_ble_eq_true rfl)) dX9_givings_22 ⟨Nat.le_of_ble_eq_true rfl, Nat.le_of_ble_eq_true rfl⟩) hS (fun q _ h => hFc q h) hFc (fun _ t H1 locs ht hvm hr45 hB hz1 hk1 hS => ?_)
          obtain ⟨ct46, hP1, hD1, hI, hk47, hk48, hk49⟩ := hB
          rw [ht] at hP1
          have hD := hD1.weaken (fun _ _ _ h => hFc _ h)
          generalize H1 = H at hP1 hS ⊢
          have hP := hP1
          refine W.widen (k := 0) (n := 0) (Nat.le_refl _) (Nat.le_refl _) ?_
          have hs50 : ct46 0 = .inr (9, [.int me, .ref (ad 1), .ref (ad 2), .ref (ad 3), .ref (ad 4), .int bks2, .int lks3, .int gos4, .int shn5, .ref (ad 5), .ref (ad 6), .ref (ad 7), .ref (ad 8), .ref (ad 9), .ref (ad 10), .ref (ad 11), .int tpd6, .int pl07, .int ln08, .int flt9, .int opn10, .int cmy11, .int wtg12, .int nm013, .ref (ad 12), .ref (ad 13), .ref (ad 14), .ref (ad 15), .ref (ad 16), .ref (ad 17), .ref (ad 18), .ref (ad 19), .ref (ad 20), .ref (ad 21), .ref (ad 22), .ref (ad 23), .ref (ad 24), .ref (ad 25), .ref (ad 26), .ref (ad 27), .int mst14, .int sus15, .ref (ad 28), .ref (ad 29), .ref (ad 30), .ref (ad 31), .int cut16]) := hk47.trans hs1
          refine lv_aload_n hx hb dX9_givings_25 rfl (lv_at hl 0 rfl) ?_
          refine lv_iload_n hx hb dX9_givings_26 rfl (lv_at hl 1 rfl) ?_
          refine lv_iconst (v := (-1)) hx hb dX9_givings_27 (by decide) ?_
          refine lv_iconst (v := 0) hx hb dX9_givings_28 (by decide) ?_
          have hFc := zw_free hD hS hA
          refine va_calll (va_runV (As := [.int b, .int (-1), .int 0]) (rest := []) ⟨hx, hb, hml, hown, hg⟩ (k_X9_counts l g _ ad me ct46 b (-1 : Int32) (0 : Int32) (by first | omega | decide) hI) (cwV 3 hg (z_gV mm_1333 mm_1335 mm_86 mm_117 mm_1336) rfl rfl rfl (by decide +kernel) ⟨Nat.le_of_ble_eq_true rfl, Nat.le_of_ble_eq_true rfl⟩) ⟨(zA.pre [.ref (ad 0), .int b, .int (-1), .int 0] hP hK hD hN).1, va_recv hK hP (ci := 9) (q0 := 0) rfl (zw_at (by omega) hs50), (zA.pre [.ref (ad 0), .int b, .int (-1), .int 0] hP hK hD hN).2⟩ rfl rfl hl.1 rfl (lv_room (Nat.le_of_ble_eq_true rfl)) dX9_givings_29 ⟨Nat.le_of_ble_eq_true rfl, Nat.le_of_ble_eq_true rfl⟩) hS (fun q _ h => hFc q h) hFc (fun r51 _ t H1 locs ht hvm hr51 hB hz1 hk1 hS => ?_)
          obtain ⟨ct52, hP1, hD1, hI, hk53, hk54, hk55, hk56⟩ := hB
          rw [ht] at hP1
          have hD := hD1.weaken (fun _ _ _ h => hFc _ h)
          generalize H1 = H at hP1 hS ⊢
          have hP := hP1
          refine W.widen (k := 0) (n := 0) (Nat.le_refl _) (Nat.le_refl _) ?_
          have hs57 : ct52 0 = .inr (9, [.int me, .ref (ad 1), .ref (ad 2), .ref (ad 3), .ref (ad 4), .int bks2, .int lks3, .int gos4, .int shn5, .ref (ad 5), .ref (ad 6), .ref (ad 7), .ref (ad 8), .ref (ad 9), .ref (ad 10), .ref (ad 11), .int tpd6, .int pl07, .int ln08, .int flt9, .int opn10, .int cmy11, .int wtg12, .int nm013, .ref (ad 12), .ref (ad 13), .ref (ad 14), .ref (ad 15), .ref (ad 16), .ref (ad 17), .ref (ad 18), .ref (ad 19), .ref (ad 20), .ref (ad 21), .ref (ad 22), .ref (ad 23), .ref (ad 24), .ref (ad 25), .ref (ad 26), .ref (ad 27), .int mst14, .int sus15, .ref (ad 28), .ref (ad 29), .ref (ad 30), .ref (ad 31), .int cut16]) := hk53.trans hs50
          exact W.lret (v := r51) hx hb hr (fun t ht hW => ⟨⟨r51, (), rfl, trivial, ct52, by rw [ht]; exact hP, hD, hI⟩, hS.F ht⟩) hS.2.2 dX9_givings_32
        · skip
          exact absurd c44 (by decide)
      · skip
        obtain ⟨rfl, h58⟩ := hr41
        replace h58 : ¬ (0 ≤ kn.toInt ∧ kn.toInt ≤ 255) := h58
        refine lv_if_ne (tgt := 19) hx hb dX9_givings_12 (by decide) (fun c59 => ?_) (fun c59 => ?_)
        · skip
          exact absurd c59 (by decide)
        · skip
          refine lv_ldc2 hx hb hown (hg _ mm_1328) dX9_givings_15 ?_
          exact W.lret (v := (-1)) hx hb hr (fun t ht hW => ⟨⟨(-1), (), rfl, trivial, ct, by rw [ht]; exact hP, hD, hI⟩, hS.F ht⟩) hS.2.2 dX9_givings_18
  · skip
    obtain rfl := hr37
    refine lv_if_eq (tgt := 15) hx hb dX9_givings_5 (by decide) (fun c60 => ?_) (fun c60 => ?_)
    · skip
      refine lv_ldc2 hx hb hown (hg _ mm_1328) dX9_givings_15 ?_
      exact W.lret (v := (-1)) hx hb hr (fun t ht hW => ⟨⟨(-1), (), rfl, trivial, ct, by rw [ht]; exact hP, hD, hI⟩, hS.F ht⟩) hS.2.2 dX9_givings_18
    · skip
      exact absurd c60 (by decide)

set_option maxHeartbeats 4000000 in
set_option maxRecDepth 100000 in
theorem k_X9_isAskedN (l : Launch) (g : zG) (ad : Nat → Nat) (me : Int32) (ct : Nat → va_E) (b : Int32) (i : Int32) (p0 : Int32) (kn : Int32) (hI : IR g ad me ct) : Met l yX9_isAsked (zW yX9_isAsked cX9_isAsked 5 (some .boolean)) ({ frames := 2, cells := 0, slots := 0, locals := 43 }) (va_Pc [.ref (ad 0), .int b, .int i, .int p0, .int kn] (zR g (zw 32 ad ct))) (vp_Si (fun r : Int32 => (r = 1 ∧ (0 ≤ b.toInt ∧ b.toInt ≤ 3) ∧ (0 ≤ i.toInt ∧ i.toInt ≤ 7) ∧ (0 ≤ p0.toInt ∧ p0.toInt < me.toInt) ∧ (0 ≤ kn.toInt ∧ kn.toInt ≤ 255)) ∨ (r = 0))) 0 0 (fun _ => False) := by
  refine Met.ofW (cc := cX9_isAsked) (maxL := 5) (ret := (some .boolean)) (by decide) rfl ?_
  intro p e s m args below meth c s₁ B hml hv
  obtain ⟨rfl, hP, hK, hN⟩ := hv
  have hx := B.exec
  have hb := B.bytes
  have hr := B.returns
  have hg := zW.law (atoms_spec (ws := (zW yX9_isAsked cX9_isAsked 5 (some .boolean))) B.pre)
  have hown : s.vm.findClass RX9 = some m.cls := findClass_of_methodNamed B.named
  have hlocks := B.notSynchronized
  have hpe0 := hI.1.1
  have hl := lv_entry ([.ref (ad 0), .int b, .int i, .int p0, .int kn]) (n := 5) (Nat.le_of_ble_eq_true rfl)
  rw [lg_entry_eq]
  generalize (lg_sl ([.ref (ad 0), .int b, .int i, .int p0, .int kn]) ++ List.replicate (5 - (lg_sl ([.ref (ad 0), .int b, .int i, .int p0, .int kn])).length) Slot.unset).toArray = ls at hl ⊢
  have hl : lv_has ls 5 [(0, .ref (ad 0)), (1, .int b), (2, .int i), (3, .int p0), (4, .int kn)] := hl
  have rg_b := z_rng b
  have rg_i := z_rng i
  have rg_p0 := z_rng p0
  have rg_kn := z_rng kn
  refine lv_aload_n hx hb dX9_isAsked_0 rfl (lv_at hl 0 rfl) ?_
  refine lv_iload_n hx hb dX9_isAsked_1 rfl (lv_at hl 1 rfl) ?_
  refine lv_iload_n hx hb dX9_isAsked_2 rfl (lv_at hl 2 rfl) ?_
  obtain ⟨bks2, lks3, gos4, shn5, tpd6, pl07, ln08, flt9, opn10, cmy11, wtg12, nm013, mst14, sus15, cut16, h17, h18, h19, h20, h21, h22, h23, h24, h25, h26, h27, h28, h29, h30, h31, h32, h33, h34, h35, h36, hs1⟩ := a9_0 hI.1
  refine zc_i (va_runV (As := [.int b, .int i]) (rest := []) ⟨hx, hb, hml, hown, hg⟩ (k_X9_isLine l g ad me ct b i hI) (cwV 2 hg (z_gV mm_1170 mm_1172 mm_57 mm_117 mm_1173) rfl rfl rfl (by decide +kernel) ⟨Nat.le_of_ble_eq_true rfl, Nat.le_of_ble_eq_true rfl⟩) ⟨(zR.pre [.ref (ad 0), .int b, .int i] hP hK hN).1, va_recv hK hP (ci := 9) (q0 := 0) rfl (zw_at (by omega) hs1), (zR.pre [.ref (ad 0), .int b, .int i] hP hK hN).2⟩ rfl rfl hl.1 rfl (lv_room (Nat.le_of_ble_eq_true rfl)) dX9_isAsked_3 ⟨Nat.le_of_ble_eq_true rfl, Nat.le_of_ble_eq_true rfl⟩) (fun r37 hr37 => ?_)
  rcases hr37 with hr37 | hr37
  · skip
    obtain ⟨rfl, h38, h39⟩ := hr37
    replace h38 : 0 ≤ b.toInt ∧ b.toInt ≤ 3 := h38
    replace h39 : 0 ≤ i.toInt ∧ i.toInt ≤ 7 := h39
    refine lv_if_eq (tgt := 29) hx hb dX9_isAsked_6 (by decide) (fun c40 => ?_) (fun c40 => ?_)
    · skip
      exact absurd c40 (by decide)
    · skip
      refine lv_aload_n hx hb dX9_isAsked_9 rfl (lv_at hl 0 rfl) ?_
      refine lv_iload_n hx hb dX9_isAsked_10 rfl (lv_at hl 3 rfl) ?_
      refine zc_i (va_runV (As := [.int p0]) (rest := []) ⟨hx, hb, hml, hown, hg⟩ (k_X9_isPerson l g ad me ct p0 hI) (cwV 1 hg (z_gV mm_1124 mm_1126 mm_51 mm_117 mm_1127) rfl rfl rfl (by decide +kernel) ⟨Nat.le_of_ble_eq_true rfl, Nat.le_of_ble_eq_true rfl⟩) ⟨(zR.pre [.ref (ad 0), .int p0] hP hK hN).1, va_recv hK hP (ci := 9) (q0 := 0) rfl (zw_at (by omega) hs1), (zR.pre [.ref (ad 0), .int p0] hP hK hN).2⟩ rfl rfl hl.1 rfl (lv_room (Nat.le_of_ble_eq_true rfl)) dX9_isAsked_11 ⟨Nat.le_of_ble_eq_true rfl, Nat.le_of_ble_eq_true rfl⟩) (fun r41 hr41 => ?_)
      rcases hr41 with hr41 | hr41
      · skip
        obtain ⟨rfl, h42, h43⟩ := hr41
        replace h42 : 0 ≤ p0.toInt := h42
        replace h43 : p0.toInt < me.toInt := h43
        refine lv_if_eq (tgt := 29) hx hb dX9_isAsked_14 (by decide) (fun c44 => ?_) (fun c44 => ?_)
        · skip
          exact absurd c44 (by decide)
        · skip
          refine lv_iload hx hb dX9_isAsked_17 (lv_at hl 4 rfl) ?_
          refine zc_i (va_runS (As := [.int kn]) (rest := []) ⟨hx, hb, hml, hown, hg⟩ (k_X9_isKnown l g ad me ct kn hI) (va_cwS 1 hg (z_gS mm_1294 mm_1295 mm_117 mm_1296) rfl rfl rfl (by decide +kernel) ⟨Nat.le_of_ble_eq_true rfl, Nat.le_of_ble_eq_true rfl⟩) (zR.pre [.int kn] hP hK hN) rfl rfl hl.1 rfl (lv_room (Nat.le_of_ble_eq_true rfl)) dX9_isAsked_19 ⟨Nat.le_of_ble_eq_true rfl, Nat.le_of_ble_eq_true rfl⟩) (fun r45 hr45 => ?_)
          rcases hr45 with hr45 | hr45
          · skip
            obtain ⟨rfl, h46, h47⟩ := hr45
            replace h46 : 0 ≤ kn.toInt := h46
            replace h47 : kn.toInt ≤ 255 := h47
            refine lv_if_eq (tgt := 29) hx hb dX9_isAsked_22 (by decide) (fun c48 => ?_) (fun c48 => ?_)
            · skip
              exact absurd c48 (by decide)
            · skip
              refine lv_iconst (v := 1) hx hb dX9_isAsked_25 (by decide) ?_
              refine lv_goto (tgt := 30) hx hb dX9_isAsked_26 (by decide) ?_
              have q49 : (1 : Int32).toInt = 1 := by decide
              exact W.zret (v := 1) hx hb hr rfl (fun t ht hW => ⟨1, rfl, by first | exact Or.inr rfl | exact Or.inl ⟨rfl, by omega, by omega, by omega, by omega⟩, ht⟩) (fun q hq => by cases hq) dX9_isAsked_30
          · skip
            obtain ⟨rfl, h50⟩ := hr45
            replace h50 : ¬ (0 ≤ kn.toInt ∧ kn.toInt ≤ 255) := h50
            refine lv_if_eq (tgt := 29) hx hb dX9_isAsked_22 (by decide) (fun c51 => ?_) (fun c51 => ?_)
            · skip
              refine lv_iconst (v := 0) hx hb dX9_isAsked_29 (by decide) ?_
              have q52 : (0 : Int32).toInt = 0 := by decide
              exact W.zret (v := 0) hx hb hr rfl (fun t ht hW => ⟨0, rfl, by first | exact Or.inr rfl | exact Or.inl ⟨rfl, by omega, by omega, by omega, by omega⟩, ht⟩) (fun q hq => by cases hq) dX9_isAsked_30
            · skip
              exact absurd c51 (by decide)
      · skip
        obtain ⟨rfl, h53⟩ := hr41
        replace h53 : ¬ (0 ≤ p0.toInt ∧ p0.toInt < me.toInt) := h53
        refine lv_if_eq (tgt := 29) hx hb dX9_isAsked_14 (by decide) (fun c54 => ?_) (fun c54 => ?_)
        · skip
          refine lv_iconst (v := 0) hx hb dX9_isAsked_29 (by decide) ?_
          have q55 : (0 : Int32).toInt = 0 := by decide
          exact W.zret (v := 0) hx hb hr rfl (fun t ht hW => ⟨0, rfl, by first | exact Or.inr rfl | exact Or.inl ⟨rfl, by omega, by omega, by omega, by omega⟩, ht⟩) (fun q hq => by cases hq) dX9_isAsked_30
        · skip
          exact absurd c54 (by decide)
  · skip
    obtain rfl := hr37
    refine lv_if_eq (tgt := 29) hx hb dX9_isAsked_6 (by decide) (fun c56 => ?_) (fun c56 => ?_)
    · skip
      refine lv_iconst (v := 0) hx hb dX9_isAsked_29 (by decide) ?_
      have q57 : (0 : Int32).toInt = 0 := by decide
      exact W.zret (v := 0) hx hb hr rfl (fun t ht hW => ⟨0, rfl, by first | exact Or.inr rfl | exact Or.inl ⟨rfl, by omega, by omega, by omega, by omega⟩, ht⟩) (fun q hq => by cases hq) dX9_isAsked_30
    · skip
      exact absurd c56 (by decide)

set_option maxHeartbeats 4000000 in
set_option maxRecDepth 100000 in
theorem k_X9_gcd (l : Launch) (g : zG) (ad : Nat → Nat) (me : Int32) (ct : Nat → va_E) (la : Int64) (lb : Int64) (hI : IR g ad me ct) : Met l yX9_gcd (zW yX9_gcd cX9_gcd 10 (some .long)) ({ frames := 0, cells := 0, slots := 0, locals := 0 }) (va_Pc [.long la, .long lb] (zR g (zw 32 ad ct))) (vp_Sl (fun r : Int64 => ((lb = 0 ∨ ¬ r = 0)))) 0 0 (fun _ => False) := by
  refine Met.ofW (cc := cX9_gcd) (maxL := 10) (ret := (some .long)) (by decide) rfl ?_
  intro p e s m args below meth c s₁ B hml hv
  obtain ⟨rfl, hP, hK, hN⟩ := hv
  have hx := B.exec
  have hb := B.bytes
  have hr := B.returns
  have hg := zW.law (atoms_spec (ws := (zW yX9_gcd cX9_gcd 10 (some .long))) B.pre)
  have hown : s.vm.findClass RX9 = some m.cls := findClass_of_methodNamed B.named
  have hlocks := B.notSynchronized
  have hpe0 := hI.1.1
  have hl := lv_entry ([.long la, .long lb]) (n := 10) (Nat.le_of_ble_eq_true rfl)
  rw [lg_entry_eq]
  generalize (lg_sl ([.long la, .long lb]) ++ List.replicate (10 - (lg_sl ([.long la, .long lb])).length) Slot.unset).toArray = ls at hl ⊢
  have hl : lv_has ls 10 [(0, .long la), (2, .long lb)] := hl
  refine lv_lload_n hx hb dX9_gcd_0 rfl (lv_at hl 0 rfl) ?_
  refine lv_lstore (lv' := [(4, .long la), (0, .long la), (2, .long lb)]) hx hb dX9_gcd_1 hl (by decide) rfl (fun ls hl => ?_)
  refine lv_lload_n hx hb dX9_gcd_3 rfl (lv_at hl 2 rfl) ?_
  refine lv_lstore (lv' := [(6, .long lb), (4, .long la), (0, .long la), (2, .long lb)]) hx hb dX9_gcd_4 hl (by decide) rfl (fun ls hl => ?_)
  have loop6 : ∀ (n6 : Nat) (v6_6 : Int64) (v4_6 : Int64) (ls : Array Slot), ((((v6_6.toInt.natAbs : Nat) : Int) : Int).toNat < n6) → (lb = 0 ∨ ¬ v4_6 = 0 ∨ ¬ v6_6 = 0) → lv_has ls 10 [(6, .long v6_6), (4, .long v4_6), (0, .long la), (2, .long lb)] → W p l e (headSpec (zW yX9_gcd cX9_gcd 10 (some .long)) ({ frames := 0, cells := 0, slots := 0, locals := 0 })).room s m ([.long la, .long lb] : List Value).toArray below meth c s.heap [] 0 0 (MQ below (vp_Sl (fun r : Int64 => ((lb = 0 ∨ ¬ r = 0)))) ([.long la, .long lb] : List Value).toArray s 0 0 (fun _ => False)) (F0 m 6 ls []) := by
    intro n6
    induction n6 with
    | zero =>
      intro v6_6 v4_6 ls hn6 j0_6 hl
      exact absurd hn6 (Nat.not_lt_zero _)
    | succ n6 ih6 =>
      intro v6_6 v4_6 ls hn6 j0_6 hl
      refine lv_lload hx hb dX9_gcd_6 (lv_at hl 0 rfl) ?_
      refine lv_lconst (v := 0) hx hb dX9_gcd_8 (by decide) ?_
      refine W.lcmp hx hb dX9_gcd_9 ?_
      refine lv_if_eq (tgt := 31) hx hb dX9_gcd_10 (by decide) (fun c1 => ?_) (fun c1 => ?_)
      · skip
        have c1 := (lg_cmp_eq _ _).mp c1
        refine lv_lload hx hb dX9_gcd_31 (lv_at hl 1 rfl) ?_
        exact W.lret (v := v4_6) hx hb hr (fun t ht hW => ⟨v4_6, rfl, by
            rcases j0_6 with q | q | q
            · exact Or.inl q
            · exact Or.inr q
            · exact absurd c1 q, ht⟩) (fun q hq => by cases hq) dX9_gcd_33
      · skip
        have c1 := fun q => c1 ((lg_cmp_eq _ _).mpr q)
        have c1 : ¬ (v6_6 = (0 : Int64)) := c1
        have hgy : ¬ v6_6 = 0 := c1
        refine lv_lload hx hb dX9_gcd_13 (lv_at hl 1 rfl) ?_
        refine lv_lload hx hb dX9_gcd_15 (lv_at hl 0 rfl) ?_
        refine lv_lrem hx hb dX9_gcd_17 (by assumption) ?_
        refine lv_topl (fun x2 ex2 => ?_)
        refine lv_lstore (lv' := [(8, .long x2), (6, .long v6_6), (4, .long v4_6), (0, .long la), (2, .long lb)]) hx hb dX9_gcd_18 hl (by decide) rfl (fun ls hl => ?_)
        refine lv_lload hx hb dX9_gcd_20 (lv_at hl 1 rfl) ?_
        refine lv_lstore (lv' := [(4, .long v6_6), (8, .long x2), (6, .long v6_6), (0, .long la), (2, .long lb)]) hx hb dX9_gcd_22 hl (by decide) rfl (fun ls hl => ?_)
        refine lv_lload hx hb dX9_gcd_24 (lv_at hl 1 rfl) ?_
        refine lv_lstore (lv' := [(6, .long x2), (4, .long v6_6), (8, .long x2), (0, .long la), (2, .long lb)]) hx hb dX9_gcd_26 hl (by decide) rfl (fun ls hl => ?_)
        have hgi : lb = 0 ∨ ¬ v6_6 = 0 ∨ ¬ x2 = 0 := Or.inr (Or.inl hgy)
        have hgz : ((x2.toInt.natAbs : Nat) : Int) < ((v6_6.toInt.natAbs : Nat) : Int) := by rw [ex2]; exact zl_rem hgy
        refine lv_goto (tgt := 6) hx hb dX9_gcd_28 (by decide) ?_
        exact ih6 x2 v6_6 ls (by omega) (by first | assumption | omega | decide) (lv_sub hl [0, 1, 3, 4] rfl)
  have hgl : lb = 0 ∨ ¬ la = 0 ∨ ¬ lb = 0 := Classical.byCases (fun q => Or.inl q) (fun q => Or.inr (Or.inr q))
  exact loop6 ((((lb.toInt.natAbs : Nat) : Int) : Int).toNat + 1) lb la ls (by omega) (by first | assumption | omega | decide) (lv_sub hl [0, 1, 2, 3] rfl)

set_option maxHeartbeats 4000000 in
set_option maxRecDepth 100000 in
theorem k_X9_odds (l : Launch) (g : zG) (sz : Nat) (ad : Nat → Nat) (me : Int32) (ct : Nat → va_E) (b : Int32) (i : Int32) (p0 : Int32) (kn : Int32) (wh : Int32) (hI : IR g ad me ct) : Met l yX9_odds (zW yX9_odds cX9_odds 12 (some .long)) ({ frames := 6, cells := 0, slots := 0, locals := 148 }) (va_Pc [.ref (ad 0), .int b, .int i, .int p0, .int kn, .int wh] (zA g (zw 32 ad ct) sz)) (va_Ql (fun (r : Int64) (_ : Unit) => (True)) (fun _ t => ∃ ct2 : Nat → va_E, zP g (zw 32 ad ct2) t.heap ∧ va_D (va_A (zw 32 ad ct) sz) (zw 32 ad ct2) ∧ IR g ad me ct2) (va_A (zw 32 ad ct) sz)) 0 0 (va_A (zw 32 ad ct) sz) := by
  refine Met.ofW (cc := cX9_odds) (maxL := 12) (ret := (some .long)) (by decide) rfl ?_
  intro p e s m args below meth c s₁ B hml hv
  obtain ⟨rfl, hsz, hP, hK, hD0, hN⟩ := hv
  have hx := B.exec
  have hb := B.bytes
  have hr := B.returns
  have hg := zW.law (atoms_spec (ws := (zW yX9_odds cX9_odds 12 (some .long))) B.pre)
  have hown : s.vm.findClass RX9 = some m.cls := findClass_of_methodNamed B.named
  have hlocks := B.notSynchronized
  have hpe0 := hI.1.1
  subst hsz
  have hD := hD0.self (sz := s.heap.size)
  generalize hAe : va_A (zw 32 ad ct) s.heap.size = A at hD ⊢
  have hA : ∀ q : Nat, s.heap.size ≤ q → A q := fun q h => by rw [← hAe]; exact Or.inr h
  have hS : va_S A s.heap s.heap [] := va_S.rf
  have hl := lv_entry ([.ref (ad 0), .int b, .int i, .int p0, .int kn, .int wh]) (n := 12) (Nat.le_of_ble_eq_true rfl)
  rw [lg_entry_eq]
  generalize (lg_sl ([.ref (ad 0), .int b, .int i, .int p0, .int kn, .int wh]) ++ List.replicate (12 - (lg_sl ([.ref (ad 0), .int b, .int i, .int p0, .int kn, .int wh])).length) Slot.unset).toArray = ls at hl ⊢
  have hl : lv_has ls 12 [(0, .ref (ad 0)), (1, .int b), (2, .int i), (3, .int p0), (4, .int kn), (5, .int wh)] := hl
  have rg_b := z_rng b
  have rg_i := z_rng i
  have rg_p0 := z_rng p0
  have rg_kn := z_rng kn
  have rg_wh := z_rng wh
  refine lv_aload_n hx hb dX9_odds_0 rfl (lv_at hl 0 rfl) ?_
  refine lv_iload_n hx hb dX9_odds_1 rfl (lv_at hl 1 rfl) ?_
  refine lv_iload_n hx hb dX9_odds_2 rfl (lv_at hl 2 rfl) ?_
  refine lv_iload_n hx hb dX9_odds_3 rfl (lv_at hl 3 rfl) ?_
  refine lv_iload hx hb dX9_odds_4 (lv_at hl 4 rfl) ?_
  obtain ⟨bks2, lks3, gos4, shn5, tpd6, pl07, ln08, flt9, opn10, cmy11, wtg12, nm013, mst14, sus15, cut16, h17, h18, h19, h20, h21, h22, h23, h24, h25, h26, h27, h28, h29, h30, h31, h32, h33, h34, h35, h36, hs1⟩ := a9_0 hI.1
  refine zc_i (va_runV (As := [.int b, .int i, .int p0, .int kn]) (rest := []) ⟨hx, hb, hml, hown, hg⟩ (k_X9_isAskedN l g ad me ct b i p0 kn hI) (cwV 4 hg (z_gV mm_1345 mm_1347 mm_88 mm_117 mm_1348) rfl rfl rfl (by decide +kernel) ⟨Nat.le_of_ble_eq_true rfl, Nat.le_of_ble_eq_true rfl⟩) ⟨(zR.pre [.ref (ad 0), .int b, .int i, .int p0, .int kn] hP hK hN).1, va_recv hK hP (ci := 9) (q0 := 0) rfl (zw_at (by omega) hs1), (zR.pre [.ref (ad 0), .int b, .int i, .int p0, .int kn] hP hK hN).2⟩ rfl rfl hl.1 rfl (lv_room (Nat.le_of_ble_eq_true rfl)) dX9_odds_6 ⟨Nat.le_of_ble_eq_true rfl, Nat.le_of_ble_eq_true rfl⟩) (fun r37 hr37 => ?_)
  rcases hr37 with hr37 | hr37
  · skip
    obtain ⟨rfl, h38, h39, h40, h41⟩ := hr37
    replace h38 : 0 ≤ b.toInt ∧ b.toInt ≤ 3 := h38
    replace h39 : 0 ≤ i.toInt ∧ i.toInt ≤ 7 := h39
    replace h40 : 0 ≤ p0.toInt ∧ p0.toInt < me.toInt := h40
    replace h41 : 0 ≤ kn.toInt ∧ kn.toInt ≤ 255 := h41
    refine lv_if_eq (tgt := 22) hx hb dX9_odds_9 (by decide) (fun c42 => ?_) (fun c42 => ?_)
    · skip
      exact absurd c42 (by decide)
    · skip
      refine lv_iload hx hb dX9_odds_12 (lv_at hl 5 rfl) ?_
      refine lv_iconst (v := 0) hx hb dX9_odds_14 (by decide) ?_
      refine lv_iconst (v := 1) hx hb dX9_odds_15 (by decide) ?_
      refine zc_i (va_runS (As := [.int wh, .int 0, .int 1]) (rest := []) ⟨hx, hb, hml, hown, hg⟩ (k_X9_in l g ad me ct wh (0 : Int32) (1 : Int32) hI) (va_cwS 3 hg (z_gS mm_1109 mm_1110 mm_117 mm_1111) rfl rfl rfl (by decide +kernel) ⟨Nat.le_of_ble_eq_true rfl, Nat.le_of_ble_eq_true rfl⟩) (zR.pre [.int wh, .int 0, .int 1] hP hK hN) rfl rfl hl.1 rfl (lv_room (Nat.le_of_ble_eq_true rfl)) dX9_odds_16 ⟨Nat.le_of_ble_eq_true rfl, Nat.le_of_ble_eq_true rfl⟩) (fun r43 hr43 => ?_)
      rcases hr43 with hr43 | hr43
      · skip
        obtain ⟨rfl, h44, h45⟩ := hr43
        replace h44 : (0 : Int) ≤ wh.toInt := h44
        replace h45 : wh.toInt ≤ (1 : Int) := h45
        refine lv_if_ne (tgt := 26) hx hb dX9_odds_19 (by decide) (fun c46 => ?_) (fun c46 => ?_)
        · skip
          refine lv_aload_n hx hb dX9_odds_26 rfl (lv_at hl 0 rfl) ?_
          refine va_get (D := g.1) (ci := 9) (v := .ref (ad 10)) (C := RX9) (T := TX9) (N := 47) hx hb hg inG9 hown hK hP 0 (zw_at (by omega) hs1) rfl 14 (by decide) (hg _ mm_972) (fun _ h9 => h9) rfl dX9_odds_27 ?_
          refine lv_iload_n hx hb dX9_odds_30 rfl (lv_at hl 1 rfl) ?_
          refine lv_iload_n hx hb dX9_odds_31 rfl (lv_at hl 2 rfl) ?_
          refine zc_i (va_runS (As := [.int b, .int i]) (rest := [.ref (ad 10)]) ⟨hx, hb, hml, hown, hg⟩ (k_X9_at l g ad me ct b i (by first | omega | decide) (by first | omega | decide) hI) (va_cwS 2 hg (z_gS mm_1159 mm_1160 mm_117 mm_1161) rfl rfl rfl (by decide +kernel) ⟨Nat.le_of_ble_eq_true rfl, Nat.le_of_ble_eq_true rfl⟩) (zR.pre [.int b, .int i] hP hK hN) rfl rfl hl.1 rfl (lv_room (Nat.le_of_ble_eq_true rfl)) dX9_odds_32 ⟨Nat.le_of_ble_eq_true rfl, Nat.le_of_ble_eq_true rfl⟩) (fun r47 hr47 => ?_)
          have hr47_0 := hr47
          have hr47_0 : r47.toInt = 8 * b.toInt + i.toInt := hr47_0
          obtain ⟨f49, hp50, hs48⟩ := a9_10 hI.1
          refine va_zald hx hb hK hP 10 3 (zw_at (by omega) hs48) rfl (z_in rfl (by omega) (by omega)) dX9_odds_35 ?_
          refine lv_topi (fun y51 ey51 => ?_)
          have hy51 := hp50 _ (z_clt (x := r47) rfl (by omega) (by omega))
          rw [← ey51] at hy51
          have hy51 : y51 = 0 ∨ y51 = 1 := hy51
          have by51 := z_b01 hy51
          refine lv_if_eq (tgt := 43) hx hb dX9_odds_36 (by decide) (fun c52 => ?_) (fun c52 => ?_)
          · skip
            have c52 : y51.toInt = 0 := (z_eq rfl (by decide : (0 : Int32).toInt = 0)).mp c52
            refine lv_aload_n hx hb dX9_odds_43 rfl (lv_at hl 0 rfl) ?_
            refine lv_iload_n hx hb dX9_odds_44 rfl (lv_at hl 1 rfl) ?_
            refine lv_iload hx hb dX9_odds_45 (lv_at hl 4 rfl) ?_
            have hFc := zw_free hD hS hA
            refine va_callv (va_runV (As := [.int b, .int kn]) (rest := []) ⟨hx, hb, hml, hown, hg⟩ (k_X9_laysFitting l g _ ad me ct b kn (by first | omega | decide) (by first | omega | decide) hI) (cwV 2 hg (z_gV mm_1329 mm_1331 mm_85 mm_117 mm_1332) rfl rfl rfl (by decide +kernel) ⟨Nat.le_of_ble_eq_true rfl, Nat.le_of_ble_eq_true rfl⟩) ⟨(zA.pre [.ref (ad 0), .int b, .int kn] hP hK hD hN).1, va_recv hK hP (ci := 9) (q0 := 0) rfl (zw_at (by omega) hs1), (zA.pre [.ref (ad 0), .int b, .int kn] hP hK hD hN).2⟩ rfl rfl hl.1 rfl (lv_room (Nat.le_of_ble_eq_true rfl)) dX9_odds_47 ⟨Nat.le_of_ble_eq_true rfl, Nat.le_of_ble_eq_true rfl⟩) hS (fun q _ h => hFc q h) hFc (fun _ t H1 locs ht hvm hr53 hB hz1 hk1 hS => ?_)
            obtain ⟨ct54, hP1, hD1, hI, hk55, hk56, hk57⟩ := hB
            rw [ht] at hP1
            have hD := hD1.weaken (fun _ _ _ h => hFc _ h)
            generalize H1 = H at hP1 hS ⊢
            have hP := hP1
            refine W.widen (k := 0) (n := 0) (Nat.le_refl _) (Nat.le_refl _) ?_
            have hs58 : ct54 0 = .inr (9, [.int me, .ref (ad 1), .ref (ad 2), .ref (ad 3), .ref (ad 4), .int bks2, .int lks3, .int gos4, .int shn5, .ref (ad 5), .ref (ad 6), .ref (ad 7), .ref (ad 8), .ref (ad 9), .ref (ad 10), .ref (ad 11), .int tpd6, .int pl07, .int ln08, .int flt9, .int opn10, .int cmy11, .int wtg12, .int nm013, .ref (ad 12), .ref (ad 13), .ref (ad 14), .ref (ad 15), .ref (ad 16), .ref (ad 17), .ref (ad 18), .ref (ad 19), .ref (ad 20), .ref (ad 21), .ref (ad 22), .ref (ad 23), .ref (ad 24), .ref (ad 25), .ref (ad 26), .ref (ad 27), .int mst14, .int sus15, .ref (ad 28), .ref (ad 29), .ref (ad 30), .ref (ad 31), .int cut16]) := hk55.trans hs1
            have hs59 : ct54 10 = .inl (g.2 3, 32, .inl f49) := hk57.trans hs48
            refine lv_aload_n hx hb dX9_odds_50 rfl (lv_at hl 0 rfl) ?_
            refine lv_iload_n hx hb dX9_odds_51 rfl (lv_at hl 1 rfl) ?_
            refine lv_iconst (v := (-1)) hx hb dX9_odds_52 (by decide) ?_
            refine lv_iconst (v := 0) hx hb dX9_odds_53 (by decide) ?_
            have hFc := zw_free hD hS hA
            refine va_calll (va_runV (As := [.int b, .int (-1), .int 0]) (rest := []) ⟨hx, hb, hml, hown, hg⟩ (k_X9_counts l g _ ad me ct54 b (-1 : Int32) (0 : Int32) (by first | omega | decide) hI) (cwV 3 hg (z_gV mm_1333 mm_1335 mm_86 mm_117 mm_1336) rfl rfl rfl (by decide +kernel) ⟨Nat.le_of_ble_eq_true rfl, Nat.le_of_ble_eq_true rfl⟩) ⟨(zA.pre [.ref (ad 0), .int b, .int (-1), .int 0] hP hK hD hN).1, va_recv hK hP (ci := 9) (q0 := 0) rfl (zw_at (by omega) hs58), (zA.pre [.ref (ad 0), .int b, .int (-1), .int 0] hP hK hD hN).2⟩ rfl rfl hl.1 rfl (lv_room (Nat.le_of_ble_eq_true rfl)) dX9_odds_54 ⟨Nat.le_of_ble_eq_true rfl, Nat.le_of_ble_eq_true rfl⟩) hS (fun q _ h => hFc q h) hFc (fun r60 _ t H1 locs ht hvm hr60 hB hz1 hk1 hS => ?_)
            obtain ⟨ct61, hP1, hD1, hI, hk62, hk63, hk64, hk65⟩ := hB
            rw [ht] at hP1
            have hD := hD1.weaken (fun _ _ _ h => hFc _ h)
            generalize H1 = H at hP1 hS ⊢
            have hP := hP1
            refine W.widen (k := 0) (n := 0) (Nat.le_refl _) (Nat.le_refl _) ?_
            have hs66 : ct61 0 = .inr (9, [.int me, .ref (ad 1), .ref (ad 2), .ref (ad 3), .ref (ad 4), .int bks2, .int lks3, .int gos4, .int shn5, .ref (ad 5), .ref (ad 6), .ref (ad 7), .ref (ad 8), .ref (ad 9), .ref (ad 10), .ref (ad 11), .int tpd6, .int pl07, .int ln08, .int flt9, .int opn10, .int cmy11, .int wtg12, .int nm013, .ref (ad 12), .ref (ad 13), .ref (ad 14), .ref (ad 15), .ref (ad 16), .ref (ad 17), .ref (ad 18), .ref (ad 19), .ref (ad 20), .ref (ad 21), .ref (ad 22), .ref (ad 23), .ref (ad 24), .ref (ad 25), .ref (ad 26), .ref (ad 27), .int mst14, .int sus15, .ref (ad 28), .ref (ad 29), .ref (ad 30), .ref (ad 31), .int cut16]) := hk62.trans hs58
            have hs67 : ct61 10 = .inl (g.2 3, 32, .inl f49) := hk64.trans hs59
            refine lv_lstore (lv' := [(6, .long r60), (0, .ref (ad 0)), (1, .int b), (2, .int i), (3, .int p0), (4, .int kn), (5, .int wh)]) hx hb dX9_odds_57 hl (by decide) rfl (fun ls hl => ?_)
            refine lv_lload hx hb dX9_odds_59 (lv_at hl 0 rfl) ?_
            refine lv_lconst (v := 0) hx hb dX9_odds_61 (by decide) ?_
            refine W.lcmp hx hb dX9_odds_62 ?_
            refine lv_if_ne (tgt := 70) hx hb dX9_odds_63 (by decide) (fun c68 => ?_) (fun c68 => ?_)
            · skip
              have c68 := fun q => c68 ((lg_cmp_eq _ _).mpr q)
              have c68 : ¬ (r60 = (0 : Int64)) := c68
              refine lv_aload_n hx hb dX9_odds_70 rfl (lv_at hl 1 rfl) ?_
              refine lv_iload_n hx hb dX9_odds_71 rfl (lv_at hl 2 rfl) ?_
              refine lv_iload_n hx hb dX9_odds_72 rfl (lv_at hl 3 rfl) ?_
              refine lv_iload_n hx hb dX9_odds_73 rfl (lv_at hl 4 rfl) ?_
              have hFc := zw_free hD hS hA
              refine va_calll (va_runV (As := [.int b, .int i, .int p0]) (rest := []) ⟨hx, hb, hml, hown, hg⟩ (k_X9_counts l g _ ad me ct61 b i p0 (by first | omega | decide) hI) (cwV 3 hg (z_gV mm_1333 mm_1335 mm_86 mm_117 mm_1336) rfl rfl rfl (by decide +kernel) ⟨Nat.le_of_ble_eq_true rfl, Nat.le_of_ble_eq_true rfl⟩) ⟨(zA.pre [.ref (ad 0), .int b, .int i, .int p0] hP hK hD hN).1, va_recv hK hP (ci := 9) (q0 := 0) rfl (zw_at (by omega) hs66), (zA.pre [.ref (ad 0), .int b, .int i, .int p0] hP hK hD hN).2⟩ rfl rfl hl.1 rfl (lv_room (Nat.le_of_ble_eq_true rfl)) dX9_odds_74 ⟨Nat.le_of_ble_eq_true rfl, Nat.le_of_ble_eq_true rfl⟩) hS (fun q _ h => hFc q h) hFc (fun r69 _ t H1 locs ht hvm hr69 hB hz1 hk1 hS => ?_)
              obtain ⟨ct70, hP1, hD1, hI, hk71, hk72, hk73, hk74⟩ := hB
              rw [ht] at hP1
              have hD := hD1.weaken (fun _ _ _ h => hFc _ h)
              generalize H1 = H at hP1 hS ⊢
              have hP := hP1
              refine W.widen (k := 0) (n := 0) (Nat.le_refl _) (Nat.le_refl _) ?_
              have hs75 : ct70 0 = .inr (9, [.int me, .ref (ad 1), .ref (ad 2), .ref (ad 3), .ref (ad 4), .int bks2, .int lks3, .int gos4, .int shn5, .ref (ad 5), .ref (ad 6), .ref (ad 7), .ref (ad 8), .ref (ad 9), .ref (ad 10), .ref (ad 11), .int tpd6, .int pl07, .int ln08, .int flt9, .int opn10, .int cmy11, .int wtg12, .int nm013, .ref (ad 12), .ref (ad 13), .ref (ad 14), .ref (ad 15), .ref (ad 16), .ref (ad 17), .ref (ad 18), .ref (ad 19), .ref (ad 20), .ref (ad 21), .ref (ad 22), .ref (ad 23), .ref (ad 24), .ref (ad 25), .ref (ad 26), .ref (ad 27), .int mst14, .int sus15, .ref (ad 28), .ref (ad 29), .ref (ad 30), .ref (ad 31), .int cut16]) := hk71.trans hs66
              have hs76 : ct70 10 = .inl (g.2 3, 32, .inl f49) := hk73.trans hs67
              refine lv_lstore (lv' := [(8, .long r69), (6, .long r60), (0, .ref (ad 0)), (1, .int b), (2, .int i), (3, .int p0), (4, .int kn), (5, .int wh)]) hx hb dX9_odds_77 hl (by decide) rfl (fun ls hl => ?_)
              refine lv_lload hx hb dX9_odds_79 (lv_at hl 0 rfl) ?_
              refine lv_lload hx hb dX9_odds_81 (lv_at hl 1 rfl) ?_
              refine zc_l (va_runS (As := [.long r69, .long r60]) (rest := []) ⟨hx, hb, hml, hown, hg⟩ (k_X9_gcd l g ad me ct70 r69 r60 hI) (va_cwS 2 hg (z_gS mm_1350 mm_1351 mm_117 mm_1352) rfl rfl rfl (by decide +kernel) ⟨Nat.le_of_ble_eq_true rfl, Nat.le_of_ble_eq_true rfl⟩) (zR.pre [.long r69, .long r60] hP hK hN) rfl rfl hl.1 rfl (lv_room (Nat.le_of_ble_eq_true rfl)) dX9_odds_83 ⟨Nat.le_of_ble_eq_true rfl, Nat.le_of_ble_eq_true rfl⟩) (fun r77 hr77 => ?_)
              have h78 := hr77
              clear hr77
              replace h78 : r60 = 0 ∨ ¬ r77 = 0 := h78
              have hgn := h78.resolve_left c68
              refine lv_lstore (lv' := [(10, .long r77), (8, .long r69), (6, .long r60), (0, .ref (ad 0)), (1, .int b), (2, .int i), (3, .int p0), (4, .int kn), (5, .int wh)]) hx hb dX9_odds_86 hl (by decide) rfl (fun ls hl => ?_)
              refine lv_iload hx hb dX9_odds_88 (lv_at hl 8 rfl) ?_
              refine lv_if_ne (tgt := 101) hx hb dX9_odds_90 (by decide) (fun c79 => ?_) (fun c79 => ?_)
              · skip
                have c79 : ¬ (wh.toInt = 0) := fun q => c79 ((z_eq rfl (by decide : (0 : Int32).toInt = 0)).mpr q)
                refine lv_lload hx hb dX9_odds_101 (lv_at hl 2 rfl) ?_
                refine lv_lload hx hb dX9_odds_103 (lv_at hl 0 rfl) ?_
                refine lv_ldiv hx hb dX9_odds_105 (by assumption) ?_
                refine lv_topl (fun x80 ex80 => ?_)
                exact W.lret (v := x80) hx hb hr (fun t ht hW => ⟨⟨x80, (), rfl, trivial, ct70, by rw [ht]; exact hP, hD, hI⟩, hS.F ht⟩) hS.2.2 dX9_odds_106
              · skip
                have c79 : wh.toInt = 0 := (z_eq rfl (by decide : (0 : Int32).toInt = 0)).mp c79
                refine lv_lload hx hb dX9_odds_93 (lv_at hl 1 rfl) ?_
                refine lv_lload hx hb dX9_odds_95 (lv_at hl 0 rfl) ?_
                refine lv_ldiv hx hb dX9_odds_97 (by assumption) ?_
                refine lv_topl (fun x81 ex81 => ?_)
                refine lv_goto (tgt := 106) hx hb dX9_odds_98 (by decide) ?_
                exact W.lret (v := x81) hx hb hr (fun t ht hW => ⟨⟨x81, (), rfl, trivial, ct70, by rw [ht]; exact hP, hD, hI⟩, hS.F ht⟩) hS.2.2 dX9_odds_106
            · skip
              have c68 := (lg_cmp_eq _ _).mp c68
              refine lv_ldc2 hx hb hown (hg _ mm_1349) dX9_odds_66 ?_
              exact W.lret (v := (-2)) hx hb hr (fun t ht hW => ⟨⟨(-2), (), rfl, trivial, ct61, by rw [ht]; exact hP, hD, hI⟩, hS.F ht⟩) hS.2.2 dX9_odds_69
          · skip
            have c52 : ¬ (y51.toInt = 0) := fun q => c52 ((z_eq rfl (by decide : (0 : Int32).toInt = 0)).mpr q)
            refine lv_ldc2 hx hb hown (hg _ mm_1349) dX9_odds_39 ?_
            exact W.lret (v := (-2)) hx hb hr (fun t ht hW => ⟨⟨(-2), (), rfl, trivial, ct, by rw [ht]; exact hP, hD, hI⟩, hS.F ht⟩) hS.2.2 dX9_odds_42
        · skip
          exact absurd c46 (by decide)
      · skip
        obtain ⟨rfl, h82⟩ := hr43
        replace h82 : ¬ ((0 : Int) ≤ wh.toInt ∧ wh.toInt ≤ (1 : Int)) := h82
        refine lv_if_ne (tgt := 26) hx hb dX9_odds_19 (by decide) (fun c83 => ?_) (fun c83 => ?_)
        · skip
          exact absurd c83 (by decide)
        · skip
          refine lv_ldc2 hx hb hown (hg _ mm_1328) dX9_odds_22 ?_
          exact W.lret (v := (-1)) hx hb hr (fun t ht hW => ⟨⟨(-1), (), rfl, trivial, ct, by rw [ht]; exact hP, hD, hI⟩, hS.F ht⟩) hS.2.2 dX9_odds_25
  · skip
    obtain rfl := hr37
    refine lv_if_eq (tgt := 22) hx hb dX9_odds_9 (by decide) (fun c84 => ?_) (fun c84 => ?_)
    · skip
      refine lv_ldc2 hx hb hown (hg _ mm_1328) dX9_odds_22 ?_
      exact W.lret (v := (-1)) hx hb hr (fun t ht hW => ⟨⟨(-1), (), rfl, trivial, ct, by rw [ht]; exact hP, hD, hI⟩, hS.F ht⟩) hS.2.2 dX9_odds_25
    · skip
      exact absurd c84 (by decide)
