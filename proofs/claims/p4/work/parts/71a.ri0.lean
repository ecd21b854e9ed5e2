set_option maxHeartbeats 4000000 in
set_option maxRecDepth 100000 in
theorem k_X9_laysParts (l : Launch) (g : zG) (sz : Nat) (ad : Nat → Nat) (me : Int32) (ct : Nat → va_E) (set : Int32) (hl_set : 0 ≤ set.toInt ∧ set.toInt ≤ 65535) (hI : IR g ad me ct) (hs0 : ¬ set.toInt = 0) (hsp : set.toInt < ((2 ^ me.toInt.toNat : Nat) : Int)) : Met l yX9_laysParts (zW yX9_laysParts cX9_laysParts 4 none) ({ frames := 1, cells := 0, slots := 0, locals := 24 }) (va_Pc [.ref (ad 0), .int set] (zA g (zw 32 ad ct) sz)) (va_Qv (fun (_ : Unit) => True) (fun _ t => ∃ ct2 : Nat → va_E, zP g (zw 32 ad ct2) t.heap ∧ va_D (va_A (zw 32 ad ct) sz) (zw 32 ad ct2) ∧ IR g ad me ct2 ∧ (1 ≤ zfi 41 (ct2 0))) (va_A (zw 32 ad ct) sz)) 0 0 (va_A (zw 32 ad ct) sz) := by
  refine Met.ofW (cc := cX9_laysParts) (maxL := 4) (ret := none) (by decide) rfl ?_
  intro p e s m args below meth c s₁ B hml hv
  obtain ⟨rfl, hsz, hP, hK, hD0, hN⟩ := hv
  have hx := B.exec
  have hb := B.bytes
  have hr := B.returns
  have hg := zW.law (atoms_spec (ws := (zW yX9_laysParts cX9_laysParts 4 none)) B.pre)
  have hown : s.vm.findClass RX9 = some m.cls := findClass_of_methodNamed B.named
  have hlocks := B.notSynchronized
  have hpe0 := hI.1.1
  subst hsz
  have hD := hD0.self (sz := s.heap.size)
  generalize hAe : va_A (zw 32 ad ct) s.heap.size = A at hD ⊢
  have hA : ∀ q : Nat, s.heap.size ≤ q → A q := fun q h => by rw [← hAe]; exact Or.inr h
  have hS : va_S A s.heap s.heap [] := va_S.rf
  have hl := lv_entry ([.ref (ad 0), .int set]) (n := 4) (Nat.le_of_ble_eq_true rfl)
  rw [lg_entry_eq]
  generalize (lg_sl ([.ref (ad 0), .int set]) ++ List.replicate (4 - (lg_sl ([.ref (ad 0), .int set])).length) Slot.unset).toArray = ls at hl ⊢
  have hl : lv_has ls 4 [(0, .ref (ad 0)), (1, .int set)] := hl
  have q0 : ((0 : Int32)).toInt = 0 := by decide
  have q1 : ((1 : Int32)).toInt = 1 := by decide
  refine lv_aload_n hx hb dX9_laysParts_0 rfl (lv_at hl 0 rfl) ?_
  refine lv_iconst (v := 0) hx hb dX9_laysParts_1 (by decide) ?_
  obtain ⟨bks2, lks3, gos4, shn5, tpd6, pl07, ln08, flt9, opn10, cmy11, wtg12, nm013, mst14, sus15, cut16, h17, h18, h19, h20, h21, h22, h23, h24, h25, h26, h27, h28, h29, h30, h31, h32, h33, h34, h35, h36, hs1⟩ := a9_0 hI.1
  have z41_hs1 : zfi 41 (ct 0) = sus15.toInt := by rw [hs1]; rfl
  refine va_put (D := g.1) (ci := 9) (v := .int 0) (ty := .int) (C := RX9) (T := TX9) (N := 47) hx hb hg inG9 tyX9 tyX9_ok nmX9 hown hK hP hD hS 0 (zw_at (by omega) hs1) rfl 41 (by decide) (hg _ mm_999) (fun _ h9 => h9) rfl (by decide +kernel) rfl rfl (Nat.le_of_ble_eq_true rfl) dX9_laysParts_2 (fun H locs hP hD hS => ?_)
  have hP : zP g ((zw 32 ad ct).set 0 (ad 0, .inr (9, [.int me, .ref (ad 1), .ref (ad 2), .ref (ad 3), .ref (ad 4), .int bks2, .int lks3, .int gos4, .int shn5, .ref (ad 5), .ref (ad 6), .ref (ad 7), .ref (ad 8), .ref (ad 9), .ref (ad 10), .ref (ad 11), .int tpd6, .int pl07, .int ln08, .int flt9, .int opn10, .int cmy11, .int wtg12, .int nm013, .ref (ad 12), .ref (ad 13), .ref (ad 14), .ref (ad 15), .ref (ad 16), .ref (ad 17), .ref (ad 18), .ref (ad 19), .ref (ad 20), .ref (ad 21), .ref (ad 22), .ref (ad 23), .ref (ad 24), .ref (ad 25), .ref (ad 26), .ref (ad 27), .int mst14, .int 0, .ref (ad 28), .ref (ad 29), .ref (ad 30), .ref (ad 31), .int cut16]))) H := hP
  have hD : va_D A ((zw 32 ad ct).set 0 (ad 0, .inr (9, [.int me, .ref (ad 1), .ref (ad 2), .ref (ad 3), .ref (ad 4), .int bks2, .int lks3, .int gos4, .int shn5, .ref (ad 5), .ref (ad 6), .ref (ad 7), .ref (ad 8), .ref (ad 9), .ref (ad 10), .ref (ad 11), .int tpd6, .int pl07, .int ln08, .int flt9, .int opn10, .int cmy11, .int wtg12, .int nm013, .ref (ad 12), .ref (ad 13), .ref (ad 14), .ref (ad 15), .ref (ad 16), .ref (ad 17), .ref (ad 18), .ref (ad 19), .ref (ad 20), .ref (ad 21), .ref (ad 22), .ref (ad 23), .ref (ad 24), .ref (ad 25), .ref (ad 26), .ref (ad 27), .int mst14, .int 0, .ref (ad 28), .ref (ad 29), .ref (ad 30), .ref (ad 31), .int cut16]))) := hD
  rw [zw_set (by omega)] at hP hD
  obtain ⟨ct37, ec38⟩ : ∃ z : Nat → va_E, z = va_up ct 0 (.inr (9, [.int me, .ref (ad 1), .ref (ad 2), .ref (ad 3), .ref (ad 4), .int bks2, .int lks3, .int gos4, .int shn5, .ref (ad 5), .ref (ad 6), .ref (ad 7), .ref (ad 8), .ref (ad 9), .ref (ad 10), .ref (ad 11), .int tpd6, .int pl07, .int ln08, .int flt9, .int opn10, .int cmy11, .int wtg12, .int nm013, .ref (ad 12), .ref (ad 13), .ref (ad 14), .ref (ad 15), .ref (ad 16), .ref (ad 17), .ref (ad 18), .ref (ad 19), .ref (ad 20), .ref (ad 21), .ref (ad 22), .ref (ad 23), .ref (ad 24), .ref (ad 25), .ref (ad 26), .ref (ad 27), .int mst14, .int 0, .ref (ad 28), .ref (ad 29), .ref (ad 30), .ref (ad 31), .int cut16])) := ⟨_, rfl⟩
  rw [← ec38] at hP hD
  have hI : IR g ad me ct37 := by rw [ec38]; exact upR hI (by decide) (i9_0 ⟨(bks2 : Int32), (lks3 : Int32), (gos4 : Int32), (shn5 : Int32), (tpd6 : Int32), (pl07 : Int32), (ln08 : Int32), (flt9 : Int32), (opn10 : Int32), (cmy11 : Int32), (wtg12 : Int32), (nm013 : Int32), (mst14 : Int32), (0 : Int32), (cut16 : Int32), (by first | omega | decide), (by first | omega | decide), (by first | omega | decide), (by first | omega | decide), (by first | omega | decide), (by first | omega | decide), (by first | omega | decide), (by first | omega | decide), (by first | omega | decide), (by first | omega | decide), (by first | omega | decide), (by first | omega | decide), (by first | omega | decide), (by first | omega | decide), (by first | omega | decide), (by first | omega | decide), (by first | omega | decide), (by first | omega | decide), (by first | omega | decide), (by first | omega | decide), rfl⟩)
  have hs39 : ct37 0 = .inr (9, [.int me, .ref (ad 1), .ref (ad 2), .ref (ad 3), .ref (ad 4), .int bks2, .int lks3, .int gos4, .int shn5, .ref (ad 5), .ref (ad 6), .ref (ad 7), .ref (ad 8), .ref (ad 9), .ref (ad 10), .ref (ad 11), .int tpd6, .int pl07, .int ln08, .int flt9, .int opn10, .int cmy11, .int wtg12, .int nm013, .ref (ad 12), .ref (ad 13), .ref (ad 14), .ref (ad 15), .ref (ad 16), .ref (ad 17), .ref (ad 18), .ref (ad 19), .ref (ad 20), .ref (ad 21), .ref (ad 22), .ref (ad 23), .ref (ad 24), .ref (ad 25), .ref (ad 26), .ref (ad 27), .int mst14, .int 0, .ref (ad 28), .ref (ad 29), .ref (ad 30), .ref (ad 31), .int cut16]) := by rw [ec38]; exact va_up_self _ _ _
  have z41_hs39 : zfi 41 (ct37 0) = (0 : Int32).toInt := by rw [hs39]; rfl
  refine lv_iconst (v := 0) hx hb dX9_laysParts_5 (by decide) ?_
  refine lv_istore_n (lv' := [(2, .int 0), (0, .ref (ad 0)), (1, .int set)]) hx hb dX9_laysParts_6 rfl hl (by decide) rfl (fun ls hl => ?_)
  have loop7 : ∀ (n7 : Nat) (v2_7 : Int32) (ct40 : Nat → va_E) (H : Heap) (locs : List Loc) (ls : Array Slot), ((16 - v2_7.toInt : Int).toNat < n7) → (0 ≤ v2_7.toInt ∧ v2_7.toInt ≤ 16) → (zfi 41 (ct40 0) ≤ v2_7.toInt) → (1 ≤ zfi 41 (ct40 0) ∨ ∀ k : Nat, (k : Int) < v2_7.toInt → ¬ zb set k) → (IR g ad me ct40) → zP g (zw 32 ad ct40) H → va_D A (zw 32 ad ct40) → va_S A s.heap H locs → lv_has ls 4 [(2, .int v2_7), (0, .ref (ad 0)), (1, .int set)] → W p l e (headSpec (zW yX9_laysParts cX9_laysParts 4 none) ({ frames := 1, cells := 0, slots := 0, locals := 24 })).room s m ([.ref (ad 0), .int set] : List Value).toArray below meth c H locs 0 0 (MQ below (va_Qv (fun (_ : Unit) => True) (fun _ t => ∃ ct2 : Nat → va_E, zP g (zw 32 ad ct2) t.heap ∧ va_D A (zw 32 ad ct2) ∧ IR g ad me ct2 ∧ (1 ≤ zfi 41 (ct2 0))) A) ([.ref (ad 0), .int set] : List Value).toArray s 0 0 A) (F0 m 7 ls []) := by
    intro n7
    induction n7 with
    | zero =>
      intro v2_7 ct40 H locs ls hn7 b2_7 j0_7 j1_7 hI hP hD hS hl
      exact absurd hn7 (Nat.not_lt_zero _)
    | succ n7 ih7 =>
      intro v2_7 ct40 H locs ls hn7 b2_7 j0_7 j1_7 hI hP hD hS hl
      refine lv_iload_n hx hb dX9_laysParts_7 rfl (lv_at hl 0 rfl) ?_
      refine lv_aload_n hx hb dX9_laysParts_8 rfl (lv_at hl 1 rfl) ?_
      obtain ⟨bks42, lks43, gos44, shn45, tpd46, pl047, ln048, flt49, opn50, cmy51, wtg52, nm053, mst54, sus55, cut56, h57, h58, h59, h60, h61, h62, h63, h64, h65, h66, h67, h68, h69, h70, h71, h72, h73, h74, h75, h76, hs41⟩ := a9_0 hI.1
      have z41_hs41 : zfi 41 (ct40 0) = sus55.toInt := by rw [hs41]; rfl
      refine va_get (D := g.1) (ci := 9) (v := .int me) (C := RX9) (T := TX9) (N := 47) hx hb hg inG9 hown hK hP 0 (zw_at (by omega) hs41) rfl 0 (by decide) (hg _ mm_958) (fun _ h9 => h9) rfl dX9_laysParts_9 ?_
      refine lv_icmp_ge (tgt := 52) hx hb dX9_laysParts_12 (by decide) (fun c77 => ?_) (fun c77 => ?_)
      · skip
        have c77 : me.toInt ≤ v2_7.toInt := (z_le rfl rfl).mp c77
        have hs1 : 1 ≤ zfi 41 (ct40 0) := by
          rcases j1_7 with q | q
          · exact q
          · exact absurd (zb_none (n := me.toInt.toNat) (by omega) hsp (fun k hk => q k (by omega))) hs0
        refine lv_iconst (v := 0) hx hb dX9_laysParts_52 (by decide) ?_
        refine lv_istore_n (lv' := [(2, .int 0), (0, .ref (ad 0)), (1, .int set)]) hx hb dX9_laysParts_53 rfl hl (by decide) rfl (fun ls hl => ?_)
        have loop54 : ∀ (n54 : Nat) (v2_54 : Int32) (ct78 : Nat → va_E) (H : Heap) (locs : List Loc) (ls : Array Slot), ((128 - v2_54.toInt : Int).toNat < n54) → (0 ≤ v2_54.toInt ∧ v2_54.toInt ≤ 128) → (ct78 0 = .inr (9, [.int me, .ref (ad 1), .ref (ad 2), .ref (ad 3), .ref (ad 4), .int bks42, .int lks43, .int gos44, .int shn45, .ref (ad 5), .ref (ad 6), .ref (ad 7), .ref (ad 8), .ref (ad 9), .ref (ad 10), .ref (ad 11), .int tpd46, .int pl047, .int ln048, .int flt49, .int opn50, .int cmy51, .int wtg52, .int nm053, .ref (ad 12), .ref (ad 13), .ref (ad 14), .ref (ad 15), .ref (ad 16), .ref (ad 17), .ref (ad 18), .ref (ad 19), .ref (ad 20), .ref (ad 21), .ref (ad 22), .ref (ad 23), .ref (ad 24), .ref (ad 25), .ref (ad 26), .ref (ad 27), .int mst54, .int sus55, .ref (ad 28), .ref (ad 29), .ref (ad 30), .ref (ad 31), .int cut56])) → (IR g ad me ct78) → zP g (zw 32 ad ct78) H → va_D A (zw 32 ad ct78) → va_S A s.heap H locs → lv_has ls 4 [(2, .int v2_54), (0, .ref (ad 0)), (1, .int set)] → W p l e (headSpec (zW yX9_laysParts cX9_laysParts 4 none) ({ frames := 1, cells := 0, slots := 0, locals := 24 })).room s m ([.ref (ad 0), .int set] : List Value).toArray below meth c H locs 0 0 (MQ below (va_Qv (fun (_ : Unit) => True) (fun _ t => ∃ ct2 : Nat → va_E, zP g (zw 32 ad ct2) t.heap ∧ va_D A (zw 32 ad ct2) ∧ IR g ad me ct2 ∧ (1 ≤ zfi 41 (ct2 0))) A) ([.ref (ad 0), .int set] : List Value).toArray s 0 0 A) (F0 m 54 ls []) := by
          intro n54
          induction n54 with
          | zero =>
            intro v2_54 ct78 H locs ls hn54 b2_54 kp0_54 hI hP hD hS hl
            exact absurd hn54 (Nat.not_lt_zero _)
          | succ n54 ih54 =>
            intro v2_54 ct78 H locs ls hn54 b2_54 kp0_54 hI hP hD hS hl
            have z41_kp0_54 : zfi 41 (ct78 0) = (sus55 : Int32).toInt := by rw [kp0_54]; rfl
            refine lv_iload_n hx hb dX9_laysParts_54 rfl (lv_at hl 0 rfl) ?_
            refine lv_sipush (v := 128) hx hb dX9_laysParts_55 (by decide) ?_
            refine lv_icmp_ge (tgt := 139) hx hb dX9_laysParts_58 (by decide) (fun c79 => ?_) (fun c79 => ?_)
            · skip
              have c79 : 128 ≤ v2_54.toInt := (z_le (by decide : (128 : Int32).toInt = 128) rfl).mp c79
              exact W.vret hx hb hr (fun t ht hW => ⟨⟨(), rfl, trivial, ct78, by rw [ht]; exact hP, hD, hI, (by omega)⟩, hS.F ht⟩) hS.2.2 dX9_laysParts_139
            · skip
              have c79 : ¬ (128 ≤ v2_54.toInt) := fun q => c79 ((z_le (by decide : (128 : Int32).toInt = 128) rfl).mpr q)
              refine lv_aload_n hx hb dX9_laysParts_61 rfl (lv_at hl 1 rfl) ?_
              refine va_get (D := g.1) (ci := 9) (v := .ref (ad 29)) (C := RX9) (T := TX9) (N := 47) hx hb hg inG9 hown hK hP 0 (zw_at (by omega) kp0_54) rfl 43 (by decide) (hg _ mm_1001) (fun _ h9 => h9) rfl dX9_laysParts_62 ?_
              refine lv_iload_n hx hb dX9_laysParts_65 rfl (lv_at hl 0 rfl) ?_
              refine lv_iconst (v := 0) hx hb dX9_laysParts_66 (by decide) ?_
              obtain ⟨f81, hs80⟩ := a9_29 hI.1
              refine va_iast hx hb hK hP hD hS 29 0 (zw_at (by omega) hs80) rfl (z_in rfl (by omega) (by omega)) dX9_laysParts_67 (fun H locs hP hD hS => ?_)
              have hP : zP g ((zw 32 ad ct78).set 29 (ad 29, .inl (g.2 0, 128, .inl (upd f81 (Int32.toNatClampNeg v2_54) 0)))) H := hP
              have hD : va_D A ((zw 32 ad ct78).set 29 (ad 29, .inl (g.2 0, 128, .inl (upd f81 (Int32.toNatClampNeg v2_54) 0)))) := hD
              rw [zw_set (by omega)] at hP hD
              obtain ⟨ct83, ec84⟩ : ∃ z : Nat → va_E, z = va_up ct78 29 (.inl (g.2 0, 128, .inl (upd f81 (Int32.toNatClampNeg v2_54) 0))) := ⟨_, rfl⟩
              rw [← ec84] at hP hD
              have hI : IR g ad me ct83 := by rw [ec84]; exact upR hI (by decide) (i9_29 ⟨_, rfl⟩)
              have hs85 : ct83 0 = .inr (9, [.int me, .ref (ad 1), .ref (ad 2), .ref (ad 3), .ref (ad 4), .int bks42, .int lks43, .int gos44, .int shn45, .ref (ad 5), .ref (ad 6), .ref (ad 7), .ref (ad 8), .ref (ad 9), .ref (ad 10), .ref (ad 11), .int tpd46, .int pl047, .int ln048, .int flt49, .int opn50, .int cmy51, .int wtg52, .int nm053, .ref (ad 12), .ref (ad 13), .ref (ad 14), .ref (ad 15), .ref (ad 16), .ref (ad 17), .ref (ad 18), .ref (ad 19), .ref (ad 20), .ref (ad 21), .ref (ad 22), .ref (ad 23), .ref (ad 24), .ref (ad 25), .ref (ad 26), .ref (ad 27), .int mst54, .int sus55, .ref (ad 28), .ref (ad 29), .ref (ad 30), .ref (ad 31), .int cut56]) := by rw [ec84, va_up_ne _ _ (by omega)]; exact kp0_54
              have hs86 : ct83 29 = .inl (g.2 0, 128, .inl (upd f81 (Int32.toNatClampNeg v2_54) 0)) := by rw [ec84]; exact va_up_self _ _ _
              have z41_hs85 : zfi 41 (ct83 0) = (sus55 : Int32).toInt := by rw [hs85]; rfl
              refine lv_iconst (v := 0) hx hb dX9_laysParts_68 (by decide) ?_
              refine lv_istore_n (lv' := [(3, .int 0), (2, .int v2_54), (0, .ref (ad 0)), (1, .int set)]) hx hb dX9_laysParts_69 rfl hl (by decide) rfl (fun ls hl => ?_)
              have loop70 : ∀ (n70 : Nat) (v3_70 : Int32) (ct87 : Nat → va_E) (H : Heap) (locs : List Loc) (ls : Array Slot), ((16 - v3_70.toInt : Int).toNat < n70) → (0 ≤ v3_70.toInt ∧ v3_70.toInt ≤ 16) → (ct87 0 = .inr (9, [.int me, .ref (ad 1), .ref (ad 2), .ref (ad 3), .ref (ad 4), .int bks42, .int lks43, .int gos44, .int shn45, .ref (ad 5), .ref (ad 6), .ref (ad 7), .ref (ad 8), .ref (ad 9), .ref (ad 10), .ref (ad 11), .int tpd46, .int pl047, .int ln048, .int flt49, .int opn50, .int cmy51, .int wtg52, .int nm053, .ref (ad 12), .ref (ad 13), .ref (ad 14), .ref (ad 15), .ref (ad 16), .ref (ad 17), .ref (ad 18), .ref (ad 19), .ref (ad 20), .ref (ad 21), .ref (ad 22), .ref (ad 23), .ref (ad 24), .ref (ad 25), .ref (ad 26), .ref (ad 27), .int mst54, .int sus55, .ref (ad 28), .ref (ad 29), .ref (ad 30), .ref (ad 31), .int cut56])) → (IR g ad me ct87) → zP g (zw 32 ad ct87) H → va_D A (zw 32 ad ct87) → va_S A s.heap H locs → lv_has ls 4 [(3, .int v3_70), (2, .int v2_54), (0, .ref (ad 0)), (1, .int set)] → W p l e (headSpec (zW yX9_laysParts cX9_laysParts 4 none) ({ frames := 1, cells := 0, slots := 0, locals := 24 })).room s m ([.ref (ad 0), .int set] : List Value).toArray below meth c H locs 0 0 (MQ below (va_Qv (fun (_ : Unit) => True) (fun _ t => ∃ ct2 : Nat → va_E, zP g (zw 32 ad ct2) t.heap ∧ va_D A (zw 32 ad ct2) ∧ IR g ad me ct2 ∧ (1 ≤ zfi 41 (ct2 0))) A) ([.ref (ad 0), .int set] : List Value).toArray s 0 0 A) (F0 m 70 ls []) := by
                intro n70
                induction n70 with
                | zero =>
                  intro v3_70 ct87 H locs ls hn70 b3_70 kp0_70 hI hP hD hS hl
                  exact absurd hn70 (Nat.not_lt_zero _)
                | succ n70 ih70 =>
                  intro v3_70 ct87 H locs ls hn70 b3_70 kp0_70 hI hP hD hS hl
                  have z41_kp0_70 : zfi 41 (ct87 0) = (sus55 : Int32).toInt := by rw [kp0_70]; rfl
                  refine lv_iload_n hx hb dX9_laysParts_70 rfl (lv_at hl 0 rfl) ?_
                  refine lv_aload_n hx hb dX9_laysParts_71 rfl (lv_at hl 2 rfl) ?_
                  refine va_get (D := g.1) (ci := 9) (v := .int sus55) (C := RX9) (T := TX9) (N := 47) hx hb hg inG9 hown hK hP 0 (zw_at (by omega) kp0_70) rfl 41 (by decide) (hg _ mm_999) (fun _ h9 => h9) rfl dX9_laysParts_72 ?_
                  refine lv_icmp_ge (tgt := 133) hx hb dX9_laysParts_75 (by decide) (fun c88 => ?_) (fun c88 => ?_)
                  · skip
                    have c88 : sus55.toInt ≤ v3_70.toInt := (z_le rfl rfl).mp c88
                    obtain ⟨x89, ex89⟩ : ∃ y : Int32, y = v2_54 + 1 := ⟨_, rfl⟩
                    have tx89 : x89.toInt = v2_54.toInt + 1 := by rw [ex89]; exact z_add rfl (by decide : (1 : Int32).toInt = 1) (by omega) (by omega)
                    refine lv_iinc (v := x89) (lv' := [(2, .int x89), (3, .int v3_70), (0, .ref (ad 0)), (1, .int set)]) hx hb dX9_laysParts_133 hl (k := 1) rfl (by rw [ex89]; rfl) (by decide) rfl (fun ls hl => ?_)
                    refine lv_goto (tgt := 54) hx hb dX9_laysParts_136 (by decide) ?_
                    exact ih54 x89 ct87 _ _ ls (by omega) (by first | assumption | omega | decide) kp0_70 hI hP hD hS (lv_sub hl [0, 2, 3] rfl)
                  · skip
                    have c88 : ¬ (sus55.toInt ≤ v3_70.toInt) := fun q => c88 ((z_le rfl rfl).mpr q)
                    refine lv_aload_n hx hb dX9_laysParts_78 rfl (lv_at hl 2 rfl) ?_
                    refine lv_iload_n hx hb dX9_laysParts_79 rfl (lv_at hl 1 rfl) ?_
                    refine lv_bipush (v := 32) hx hb dX9_laysParts_80 (by decide) ?_
                    refine lv_idiv hx hb dX9_laysParts_82 (by decide) ?_
                    refine lv_topi (fun x90 ex90 => ?_)
                    have tx90 := z_div (x := v2_54) (y := 32) rfl (by decide : (32 : Int32).toInt = 32) (by omega) (by omega)
                    rw [← ex90] at tx90
                    refine lv_aload_n hx hb dX9_laysParts_83 rfl (lv_at hl 2 rfl) ?_
                    refine va_get (D := g.1) (ci := 9) (v := .ref (ad 3)) (C := RX9) (T := TX9) (N := 47) hx hb hg inG9 hown hK hP 0 (zw_at (by omega) kp0_70) rfl 3 (by decide) (hg _ mm_961) (fun _ h9 => h9) rfl dX9_laysParts_84 ?_
                    refine lv_iconst (v := 4) hx hb dX9_laysParts_87 (by decide) ?_
                    refine lv_aload_n hx hb dX9_laysParts_88 rfl (lv_at hl 2 rfl) ?_
                    refine va_get (D := g.1) (ci := 9) (v := .ref (ad 28)) (C := RX9) (T := TX9) (N := 47) hx hb hg inG9 hown hK hP 0 (zw_at (by omega) kp0_70) rfl 42 (by decide) (hg _ mm_1000) (fun _ h9 => h9) rfl dX9_laysParts_89 ?_
                    refine lv_iload_n hx hb dX9_laysParts_92 rfl (lv_at hl 0 rfl) ?_
                    obtain ⟨f92, hp93, hs91⟩ := a9_28 hI.1
                    refine va_iald hx hb hK hP 28 0 (zw_at (by omega) hs91) rfl (z_in rfl (by omega) (by omega)) dX9_laysParts_93 ?_
                    refine lv_topi (fun y94 ey94 => ?_)
                    have hy94 := hp93 _ (z_clt (x := v3_70) rfl (by omega) (by omega))
                    rw [← ey94] at hy94
                    have hy94 : 0 ≤ y94.toInt ∧ y94.toInt ≤ 15 := hy94
                    refine lv_imul hx hb dX9_laysParts_94 ?_
                    refine lv_topi (fun x95 ex95 => ?_)
                    have tx95 : x95.toInt = 4 * y94.toInt := by rw [ex95]; exact z_mul (by decide : (4 : Int32).toInt = 4) rfl (by omega) (by omega)
                    refine lv_iload_n hx hb dX9_laysParts_95 rfl (lv_at hl 1 rfl) ?_
                    refine lv_bipush (v := 32) hx hb dX9_laysParts_96 (by decide) ?_
                    refine lv_idiv hx hb dX9_laysParts_98 (by decide) ?_
                    refine lv_topi (fun x96 ex96 => ?_)
                    have tx96 := z_div (x := v2_54) (y := 32) rfl (by decide : (32 : Int32).toInt = 32) (by omega) (by omega)
                    rw [← ex96] at tx96
                    refine lv_iadd hx hb dX9_laysParts_99 ?_
                    refine lv_topi (fun x97 ex97 => ?_)
                    have tx97 : x97.toInt = x95.toInt + x96.toInt := by rw [ex97]; exact z_add rfl rfl (by omega) (by omega)
                    obtain ⟨f99, hp100, hs98⟩ := a9_3 hI.1
                    refine va_iald hx hb hK hP 3 0 (zw_at (by omega) hs98) rfl (z_in rfl (by omega) (by omega)) dX9_laysParts_100 ?_
                    refine lv_topi (fun y101 ey101 => ?_)
                    have hy101 := hp100 _ (z_clt (x := x97) rfl (by omega) (by omega))
                    rw [← ey101] at hy101
                    have hy101 : 0 ≤ y101.toInt ∧ y101.toInt ≤ 15 := hy101
                    refine lv_iload_n hx hb dX9_laysParts_101 rfl (lv_at hl 1 rfl) ?_
                    refine lv_bipush (v := 32) hx hb dX9_laysParts_102 (by decide) ?_
                    refine lv_irem hx hb dX9_laysParts_104 (by decide) ?_
                    refine lv_topi (fun x102 ex102 => ?_)
                    have tx102 := z_rem (x := v2_54) (y := 32) rfl (by decide : (32 : Int32).toInt = 32) (by omega) (by omega)
                    rw [← ex102] at tx102
                    refine zc_i (va_runV (As := [.int x90, .int y101, .int x102]) (rest := []) ⟨hx, hb, hml, hown, hg⟩ (k_X9_isBelow l g ad me ct87 x90 y101 x102 (by first | omega | decide) (by first | omega | decide) hI) (cwV 3 hg (z_gV mm_1144 mm_1146 mm_54 mm_117 mm_1147) rfl rfl rfl (by decide +kernel) ⟨Nat.le_of_ble_eq_true rfl, Nat.le_of_ble_eq_true rfl⟩) ⟨(zR.pre [.ref (ad 0), .int x90, .int y101, .int x102] hP hK hN).1, va_recv hK hP (ci := 9) (q0 := 0) rfl (zw_at (by omega) kp0_70), (zR.pre [.ref (ad 0), .int x90, .int y101, .int x102] hP hK hN).2⟩ rfl rfl hl.1 rfl (lv_room (Nat.le_of_ble_eq_true rfl)) dX9_laysParts_105 ⟨Nat.le_of_ble_eq_true rfl, Nat.le_of_ble_eq_true rfl⟩) (fun r103 hr103 => ?_)
                    rcases hr103 with hr103 | hr103
                    · skip
                      obtain rfl := hr103
                      refine lv_if_eq (tgt := 127) hx hb dX9_laysParts_108 (by decide) (fun c104 => ?_) (fun c104 => ?_)
                      · skip
                        exact absurd c104 (by decide)
                      · skip
                        refine lv_aload_n hx hb dX9_laysParts_111 rfl (lv_at hl 2 rfl) ?_
                        refine va_get (D := g.1) (ci := 9) (v := .ref (ad 29)) (C := RX9) (T := TX9) (N := 47) hx hb hg inG9 hown hK hP 0 (zw_at (by omega) kp0_70) rfl 43 (by decide) (hg _ mm_1001) (fun _ h9 => h9) rfl dX9_laysParts_112 ?_
                        refine lv_iload_n hx hb dX9_laysParts_115 rfl (lv_at hl 1 rfl) ?_
                        refine lv_aload_n hx hb dX9_laysParts_116 rfl (lv_at hl 2 rfl) ?_
                        refine va_get (D := g.1) (ci := 9) (v := .ref (ad 29)) (C := RX9) (T := TX9) (N := 47) hx hb hg inG9 hown hK hP 0 (zw_at (by omega) kp0_70) rfl 43 (by decide) (hg _ mm_1001) (fun _ h9 => h9) rfl dX9_laysParts_117 ?_
                        refine lv_iload_n hx hb dX9_laysParts_120 rfl (lv_at hl 1 rfl) ?_
                        obtain ⟨f106, hs105⟩ := a9_29 hI.1
                        refine va_iald hx hb hK hP 29 0 (zw_at (by omega) hs105) rfl (z_in rfl (by omega) (by omega)) dX9_laysParts_121 ?_
                        refine lv_topi (fun y107 ey107 => ?_)
                        refine lv_iconst (v := 1) hx hb dX9_laysParts_122 (by decide) ?_
                        refine lv_iload_n hx hb dX9_laysParts_123 rfl (lv_at hl 0 rfl) ?_
                        refine lv_ishl hx hb dX9_laysParts_124 ?_
                        refine lv_topi (fun x108 ex108 => ?_)
                        have tx108 := z_shl1 (y := v3_70) rfl (by omega) (k := 15) (by decide) (by omega)
                        rw [← ex108] at tx108
                        refine lv_ior hx hb dX9_laysParts_125 ?_
                        refine lv_topi (fun x109 ex109 => ?_)
                        refine va_iast hx hb hK hP hD hS 29 0 (zw_at (by omega) hs105) rfl (z_in rfl (by omega) (by omega)) dX9_laysParts_126 (fun H locs hP hD hS => ?_)
                        have hP : zP g ((zw 32 ad ct87).set 29 (ad 29, .inl (g.2 0, 128, .inl (upd f106 (Int32.toNatClampNeg v2_54) x109)))) H := hP
                        have hD : va_D A ((zw 32 ad ct87).set 29 (ad 29, .inl (g.2 0, 128, .inl (upd f106 (Int32.toNatClampNeg v2_54) x109)))) := hD
                        rw [zw_set (by omega)] at hP hD
                        obtain ⟨ct111, ec112⟩ : ∃ z : Nat → va_E, z = va_up ct87 29 (.inl (g.2 0, 128, .inl (upd f106 (Int32.toNatClampNeg v2_54) x109))) := ⟨_, rfl⟩
                        rw [← ec112] at hP hD
                        have hI : IR g ad me ct111 := by rw [ec112]; exact upR hI (by decide) (i9_29 ⟨_, rfl⟩)
                        have hs113 : ct111 0 = .inr (9, [.int me, .ref (ad 1), .ref (ad 2), .ref (ad 3), .ref (ad 4), .int bks42, .int lks43, .int gos44, .int shn45, .ref (ad 5), .ref (ad 6), .ref (ad 7), .ref (ad 8), .ref (ad 9), .ref (ad 10), .ref (ad 11), .int tpd46, .int pl047, .int ln048, .int flt49, .int opn50, .int cmy51, .int wtg52, .int nm053, .ref (ad 12), .ref (ad 13), .ref (ad 14), .ref (ad 15), .ref (ad 16), .ref (ad 17), .ref (ad 18), .ref (ad 19), .ref (ad 20), .ref (ad 21), .ref (ad 22), .ref (ad 23), .ref (ad 24), .ref (ad 25), .ref (ad 26), .ref (ad 27), .int mst54, .int sus55, .ref (ad 28), .ref (ad 29), .ref (ad 30), .ref (ad 31), .int cut56]) := by rw [ec112, va_up_ne _ _ (by omega)]; exact kp0_70
                        have hs114 : ct111 28 = .inl (g.2 0, 16, .inl f92) := by rw [ec112, va_up_ne _ _ (by omega)]; exact hs91
                        have hs115 : ct111 3 = .inl (g.2 0, 64, .inl f99) := by rw [ec112, va_up_ne _ _ (by omega)]; exact hs98
                        have hs116 : ct111 29 = .inl (g.2 0, 128, .inl (upd f106 (Int32.toNatClampNeg v2_54) x109)) := by rw [ec112]; exact va_up_self _ _ _
                        have z41_hs113 : zfi 41 (ct111 0) = (sus55 : Int32).toInt := by rw [hs113]; rfl
                        obtain ⟨x117, ex117⟩ : ∃ y : Int32, y = v3_70 + 1 := ⟨_, rfl⟩
                        have tx117 : x117.toInt = v3_70.toInt + 1 := by rw [ex117]; exact z_add rfl (by decide : (1 : Int32).toInt = 1) (by omega) (by omega)
                        refine lv_iinc (v := x117) (lv' := [(3, .int x117), (2, .int v2_54), (0, .ref (ad 0)), (1, .int set)]) hx hb dX9_laysParts_127 hl (k := 0) rfl (by rw [ex117]; rfl) (by decide) rfl (fun ls hl => ?_)
                        refine lv_goto (tgt := 70) hx hb dX9_laysParts_130 (by decide) ?_
                        exact ih70 x117 ct111 _ _ ls (by omega) (by first | assumption | omega | decide) hs113 hI hP hD hS (lv_sub hl [0, 1, 2, 3] rfl)
                    · skip
                      obtain rfl := hr103
                      refine lv_if_eq (tgt := 127) hx hb dX9_laysParts_108 (by decide) (fun c118 => ?_) (fun c118 => ?_)
                      · skip
                        obtain ⟨x119, ex119⟩ : ∃ y : Int32, y = v3_70 + 1 := ⟨_, rfl⟩
                        have tx119 : x119.toInt = v3_70.toInt + 1 := by rw [ex119]; exact z_add rfl (by decide : (1 : Int32).toInt = 1) (by omega) (by omega)
                        refine lv_iinc (v := x119) (lv' := [(3, .int x119), (2, .int v2_54), (0, .ref (ad 0)), (1, .int set)]) hx hb dX9_laysParts_127 hl (k := 0) rfl (by rw [ex119]; rfl) (by decide) rfl (fun ls hl => ?_)
                        refine lv_goto (tgt := 70) hx hb dX9_laysParts_130 (by decide) ?_
                        exact ih70 x119 ct87 _ _ ls (by omega) (by first | assumption | omega | decide) kp0_70 hI hP hD hS (lv_sub hl [0, 1, 2, 3] rfl)
                      · skip
                        exact absurd c118 (by decide)
              exact loop70 ((16 - (0 : Int32).toInt : Int).toNat + 1) (0 : Int32) ct83 _ _ ls (by omega) (by first | assumption | omega | decide) hs85 hI hP hD hS (lv_sub hl [0, 1, 2, 3] rfl)
        exact loop54 ((128 - (0 : Int32).toInt : Int).toNat + 1) (0 : Int32) ct40 _ _ ls (by omega) (by first | assumption | omega | decide) hs41 hI hP hD hS (lv_sub hl [0, 1, 2] rfl)
      · skip
        have c77 : ¬ (me.toInt ≤ v2_7.toInt) := fun q => c77 ((z_le rfl rfl).mpr q)
        refine lv_iload_n hx hb dX9_laysParts_15 rfl (lv_at hl 2 rfl) ?_
        refine lv_iload_n hx hb dX9_laysParts_16 rfl (lv_at hl 0 rfl) ?_
        refine lv_ishr hx hb dX9_laysParts_17 ?_
        refine lv_topi (fun x120 ex120 => ?_)
        have tx120 := z_shr (x := set) rfl (by omega) v2_7
        rw [← ex120] at tx120
        refine lv_iconst (v := 1) hx hb dX9_laysParts_18 (by decide) ?_
        refine lv_iand hx hb dX9_laysParts_19 ?_
        refine lv_topi (fun x121 ex121 => ?_)
        have tx121 := z_andr (x := x120) (y := 1) (by decide : (1 : Int32).toInt = 1) (by omega)
        rw [← ex121] at tx121
        have hgb := zb_get (x := set) (y := v2_7) (p := v2_7.toInt.toNat) (by omega) (by omega) (by omega)
        rw [← ex120, ← ex121] at hgb
        refine lv_if_ne (tgt := 26) hx hb dX9_laysParts_20 (by decide) (fun c122 => ?_) (fun c122 => ?_)
        · skip
          have c122 : ¬ (x121.toInt = 0) := fun q => c122 ((z_eq rfl (by decide : (0 : Int32).toInt = 0)).mpr q)
          refine lv_aload_n hx hb dX9_laysParts_26 rfl (lv_at hl 1 rfl) ?_
          refine va_get (D := g.1) (ci := 9) (v := .ref (ad 28)) (C := RX9) (T := TX9) (N := 47) hx hb hg inG9 hown hK hP 0 (zw_at (by omega) hs41) rfl 42 (by decide) (hg _ mm_1000) (fun _ h9 => h9) rfl dX9_laysParts_27 ?_
          refine lv_aload_n hx hb dX9_laysParts_30 rfl (lv_at hl 1 rfl) ?_
          refine va_get (D := g.1) (ci := 9) (v := .int sus55) (C := RX9) (T := TX9) (N := 47) hx hb hg inG9 hown hK hP 0 (zw_at (by omega) hs41) rfl 41 (by decide) (hg _ mm_999) (fun _ h9 => h9) rfl dX9_laysParts_31 ?_
          refine lv_iload_n hx hb dX9_laysParts_34 rfl (lv_at hl 0 rfl) ?_
          obtain ⟨f124, hp125, hs123⟩ := a9_28 hI.1
          refine va_iast hx hb hK hP hD hS 28 0 (zw_at (by omega) hs123) rfl (z_in rfl (by omega) (by omega)) dX9_laysParts_35 (fun H locs hP hD hS => ?_)
          have hp127 : ∀ j : Nat, j < 16 → (fun x : Int32 => 0 ≤ x.toInt ∧ x.toInt ≤ 15) ((upd f124 (Int32.toNatClampNeg sus55) v2_7) j) := fun j hj => by
            unfold upd
            by_cases q : j = Int32.toNatClampNeg sus55
            · rw [if_pos q]; exact (show 0 ≤ (v2_7 : Int32).toInt ∧ (v2_7 : Int32).toInt ≤ 15 from (by first | omega | decide))
            · rw [if_neg q]; exact hp125 j hj
          have hP : zP g ((zw 32 ad ct40).set 28 (ad 28, .inl (g.2 0, 16, .inl (upd f124 (Int32.toNatClampNeg sus55) v2_7)))) H := hP
          have hD : va_D A ((zw 32 ad ct40).set 28 (ad 28, .inl (g.2 0, 16, .inl (upd f124 (Int32.toNatClampNeg sus55) v2_7)))) := hD
          rw [zw_set (by omega)] at hP hD
          obtain ⟨ct128, ec129⟩ : ∃ z : Nat → va_E, z = va_up ct40 28 (.inl (g.2 0, 16, .inl (upd f124 (Int32.toNatClampNeg sus55) v2_7))) := ⟨_, rfl⟩
          rw [← ec129] at hP hD
          have hI : IR g ad me ct128 := by rw [ec129]; exact upR hI (by decide) (i9_28 ⟨_, hp127, rfl⟩)
          have hs130 : ct128 0 = .inr (9, [.int me, .ref (ad 1), .ref (ad 2), .ref (ad 3), .ref (ad 4), .int bks42, .int lks43, .int gos44, .int shn45, .ref (ad 5), .ref (ad 6), .ref (ad 7), .ref (ad 8), .ref (ad 9), .ref (ad 10), .ref (ad 11), .int tpd46, .int pl047, .int ln048, .int flt49, .int opn50, .int cmy51, .int wtg52, .int nm053, .ref (ad 12), .ref (ad 13), .ref (ad 14), .ref (ad 15), .ref (ad 16), .ref (ad 17), .ref (ad 18), .ref (ad 19), .ref (ad 20), .ref (ad 21), .ref (ad 22), .ref (ad 23), .ref (ad 24), .ref (ad 25), .ref (ad 26), .ref (ad 27), .int mst54, .int sus55, .ref (ad 28), .ref (ad 29), .ref (ad 30), .ref (ad 31), .int cut56]) := by rw [ec129, va_up_ne _ _ (by omega)]; exact hs41
          have hs131 : ct128 28 = .inl (g.2 0, 16, .inl (upd f124 (Int32.toNatClampNeg sus55) v2_7)) := by rw [ec129]; exact va_up_self _ _ _
          have z41_hs130 : zfi 41 (ct128 0) = (sus55 : Int32).toInt := by rw [hs130]; rfl
          refine lv_aload_n hx hb dX9_laysParts_36 rfl (lv_at hl 1 rfl) ?_
          refine lv_aload_n hx hb dX9_laysParts_37 rfl (lv_at hl 1 rfl) ?_
          refine va_get (D := g.1) (ci := 9) (v := .int sus55) (C := RX9) (T := TX9) (N := 47) hx hb hg inG9 hown hK hP 0 (zw_at (by omega) hs130) rfl 41 (by decide) (hg _ mm_999) (fun _ h9 => h9) rfl dX9_laysParts_38 ?_
          refine lv_iconst (v := 1) hx hb dX9_laysParts_41 (by decide) ?_
          refine lv_iadd hx hb dX9_laysParts_42 ?_
          refine lv_topi (fun x132 ex132 => ?_)
          have tx132 : x132.toInt = sus55.toInt + 1 := by rw [ex132]; exact z_add rfl (by decide : (1 : Int32).toInt = 1) (by omega) (by omega)
          refine va_put (D := g.1) (ci := 9) (v := .int x132) (ty := .int) (C := RX9) (T := TX9) (N := 47) hx hb hg inG9 tyX9 tyX9_ok nmX9 hown hK hP hD hS 0 (zw_at (by omega) hs130) rfl 41 (by decide) (hg _ mm_999) (fun _ h9 => h9) rfl (by decide +kernel) rfl rfl (Nat.le_of_ble_eq_true rfl) dX9_laysParts_43 (fun H locs hP hD hS => ?_)
          have hP : zP g ((zw 32 ad ct128).set 0 (ad 0, .inr (9, [.int me, .ref (ad 1), .ref (ad 2), .ref (ad 3), .ref (ad 4), .int bks42, .int lks43, .int gos44, .int shn45, .ref (ad 5), .ref (ad 6), .ref (ad 7), .ref (ad 8), .ref (ad 9), .ref (ad 10), .ref (ad 11), .int tpd46, .int pl047, .int ln048, .int flt49, .int opn50, .int cmy51, .int wtg52, .int nm053, .ref (ad 12), .ref (ad 13), .ref (ad 14), .ref (ad 15), .ref (ad 16), .ref (ad 17), .ref (ad 18), .ref (ad 19), .ref (ad 20), .ref (ad 21), .ref (ad 22), .ref (ad 23), .ref (ad 24), .ref (ad 25), .ref (ad 26), .ref (ad 27), .int mst54, .int x132, .ref (ad 28), .ref (ad 29), .ref (ad 30), .ref (ad 31), .int cut56]))) H := hP
          have hD : va_D A ((zw 32 ad ct128).set 0 (ad 0, .inr (9, [.int me, .ref (ad 1), .ref (ad 2), .ref (ad 3), .ref (ad 4), .int bks42, .int lks43, .int gos44, .int shn45, .ref (ad 5), .ref (ad 6), .ref (ad 7), .ref (ad 8), .ref (ad 9), .ref (ad 10), .ref (ad 11), .int tpd46, .int pl047, .int ln048, .int flt49, .int opn50, .int cmy51, .int wtg52, .int nm053, .ref (ad 12), .ref (ad 13), .ref (ad 14), .ref (ad 15), .ref (ad 16), .ref (ad 17), .ref (ad 18), .ref (ad 19), .ref (ad 20), .ref (ad 21), .ref (ad 22), .ref (ad 23), .ref (ad 24), .ref (ad 25), .ref (ad 26), .ref (ad 27), .int mst54, .int x132, .ref (ad 28), .ref (ad 29), .ref (ad 30), .ref (ad 31), .int cut56]))) := hD
          rw [zw_set (by omega)] at hP hD
          obtain ⟨ct133, ec134⟩ : ∃ z : Nat → va_E, z = va_up ct128 0 (.inr (9, [.int me, .ref (ad 1), .ref (ad 2), .ref (ad 3), .ref (ad 4), .int bks42, .int lks43, .int gos44, .int shn45, .ref (ad 5), .ref (ad 6), .ref (ad 7), .ref (ad 8), .ref (ad 9), .ref (ad 10), .ref (ad 11), .int tpd46, .int pl047, .int ln048, .int flt49, .int opn50, .int cmy51, .int wtg52, .int nm053, .ref (ad 12), .ref (ad 13), .ref (ad 14), .ref (ad 15), .ref (ad 16), .ref (ad 17), .ref (ad 18), .ref (ad 19), .ref (ad 20), .ref (ad 21), .ref (ad 22), .ref (ad 23), .ref (ad 24), .ref (ad 25), .ref (ad 26), .ref (ad 27), .int mst54, .int x132, .ref (ad 28), .ref (ad 29), .ref (ad 30), .ref (ad 31), .int cut56])) := ⟨_, rfl⟩
          rw [← ec134] at hP hD
          have hI : IR g ad me ct133 := by rw [ec134]; exact upR hI (by decide) (i9_0 ⟨(bks42 : Int32), (lks43 : Int32), (gos44 : Int32), (shn45 : Int32), (tpd46 : Int32), (pl047 : Int32), (ln048 : Int32), (flt49 : Int32), (opn50 : Int32), (cmy51 : Int32), (wtg52 : Int32), (nm053 : Int32), (mst54 : Int32), (x132 : Int32), (cut56 : Int32), (by first | omega | decide), (by first | omega | decide), (by first | omega | decide), (by first | omega | decide), (by first | omega | decide), (by first | omega | decide), (by first | omega | decide), (by first | omega | decide), (by first | omega | decide), (by first | omega | decide), (by first | omega | decide), (by first | omega | decide), (by first | omega | decide), (by first | omega | decide), (by first | omega | decide), (by first | omega | decide), (by first | omega | decide), (by first | omega | decide), (by first | omega | decide), (by first | omega | decide), rfl⟩)
          have hs135 : ct133 28 = .inl (g.2 0, 16, .inl (upd f124 (Int32.toNatClampNeg sus55) v2_7)) := by rw [ec134, va_up_ne _ _ (by omega)]; exact hs131
          have hs136 : ct133 0 = .inr (9, [.int me, .ref (ad 1), .ref (ad 2), .ref (ad 3), .ref (ad 4), .int bks42, .int lks43, .int gos44, .int shn45, .ref (ad 5), .ref (ad 6), .ref (ad 7), .ref (ad 8), .ref (ad 9), .ref (ad 10), .ref (ad 11), .int tpd46, .int pl047, .int ln048, .int flt49, .int opn50, .int cmy51, .int wtg52, .int nm053, .ref (ad 12), .ref (ad 13), .ref (ad 14), .ref (ad 15), .ref (ad 16), .ref (ad 17), .ref (ad 18), .ref (ad 19), .ref (ad 20), .ref (ad 21), .ref (ad 22), .ref (ad 23), .ref (ad 24), .ref (ad 25), .ref (ad 26), .ref (ad 27), .int mst54, .int x132, .ref (ad 28), .ref (ad 29), .ref (ad 30), .ref (ad 31), .int cut56]) := by rw [ec134]; exact va_up_self _ _ _
          have z41_hs136 : zfi 41 (ct133 0) = (x132 : Int32).toInt := by rw [hs136]; rfl
          obtain ⟨x137, ex137⟩ : ∃ y : Int32, y = v2_7 + 1 := ⟨_, rfl⟩
          have tx137 : x137.toInt = v2_7.toInt + 1 := by rw [ex137]; exact z_add rfl (by decide : (1 : Int32).toInt = 1) (by omega) (by omega)
          refine lv_iinc (v := x137) (lv' := [(2, .int x137), (0, .ref (ad 0)), (1, .int set)]) hx hb dX9_laysParts_46 hl (k := 0) rfl (by rw [ex137]; rfl) (by decide) rfl (fun ls hl => ?_)
          have hnb2 : 1 ≤ zfi 41 (ct133 0) ∨ ∀ k : Nat, (k : Int) < x137.toInt → ¬ zb set k := by
            first
              | exact Or.inl (by omega)
              | rcases j1_7 with q | q
                · exact Or.inl (by omega)
                · refine Or.inr (fun k hk => ?_)
                  by_cases e : k = v2_7.toInt.toNat
                  · subst e
                    rcases hgb with ⟨g1, g2⟩ | ⟨g1, g2⟩
                    · omega
                    · exact g2
                  · exact q k (by omega)
          refine lv_goto (tgt := 7) hx hb dX9_laysParts_49 (by decide) ?_
          exact ih7 x137 ct133 _ _ ls (by omega) (by first | assumption | omega | decide) (by first | assumption | omega | decide) (by first | assumption | omega | decide) hI hP hD hS (lv_sub hl [0, 1, 2] rfl)
        · skip
          have c122 : x121.toInt = 0 := (z_eq rfl (by decide : (0 : Int32).toInt = 0)).mp c122
          refine lv_goto (tgt := 46) hx hb dX9_laysParts_23 (by decide) ?_
          obtain ⟨x138, ex138⟩ : ∃ y : Int32, y = v2_7 + 1 := ⟨_, rfl⟩
          have tx138 : x138.toInt = v2_7.toInt + 1 := by rw [ex138]; exact z_add rfl (by decide : (1 : Int32).toInt = 1) (by omega) (by omega)
          refine lv_iinc (v := x138) (lv' := [(2, .int x138), (0, .ref (ad 0)), (1, .int set)]) hx hb dX9_laysParts_46 hl (k := 0) rfl (by rw [ex138]; rfl) (by decide) rfl (fun ls hl => ?_)
          have hnb2 : 1 ≤ zfi 41 (ct40 0) ∨ ∀ k : Nat, (k : Int) < x138.toInt → ¬ zb set k := by
            first
              | exact Or.inl (by omega)
              | rcases j1_7 with q | q
                · exact Or.inl (by omega)
                · refine Or.inr (fun k hk => ?_)
                  by_cases e : k = v2_7.toInt.toNat
                  · subst e
                    rcases hgb with ⟨g1, g2⟩ | ⟨g1, g2⟩
                    · omega
                    · exact g2
                  · exact q k (by omega)
          refine lv_goto (tgt := 7) hx hb dX9_laysParts_49 (by decide) ?_
          exact ih7 x138 ct40 _ _ ls (by omega) (by first | assumption | omega | decide) (by first | assumption | omega | decide) (by first | assumption | omega | decide) hI hP hD hS (lv_sub hl [0, 1, 2] rfl)
  have hnb : 1 ≤ zfi 41 (ct37 0) ∨ ∀ k : Nat, (k : Int) < ((0 : Int32)).toInt → ¬ zb set k := Or.inr (fun k hk => by omega)
  exact loop7 ((16 - (0 : Int32).toInt : Int).toNat + 1) (0 : Int32) ct37 _ _ ls (by omega) (by first | assumption | omega | decide) (by first | assumption | omega | decide) (by first | assumption | omega | decide) hI hP hD hS (lv_sub hl [0, 1, 2] rfl)

set_option maxHeartbeats 4000000 in
set_option maxRecDepth 100000 in
theorem k_X9_enoughBy (l : Launch) (g : zG) (ad : Nat → Nat) (me : Int32) (ct : Nat → va_E) (set : Int32) (q : Int32) (hl_set : 0 ≤ set.toInt ∧ set.toInt ≤ 65535) (hl_q : 0 ≤ q.toInt ∧ q.toInt ≤ 127) (hI : IR g ad me ct) : Met l yX9_enoughBy (zW yX9_enoughBy cX9_enoughBy 6 (some .int)) ({ frames := 0, cells := 0, slots := 0, locals := 0 }) (va_Pc [.ref (ad 0), .int set, .int q] (zR g (zw 32 ad ct))) (vp_Si (fun r : Int32 => ((r = zeb (zar (ct 30)) (zar (ct 29)) set q.toInt)))) 0 0 (fun _ => False) := by
  refine Met.ofW (cc := cX9_enoughBy) (maxL := 6) (ret := (some .int)) (by decide) rfl ?_
  intro p e s m args below meth c s₁ B hml hv
  obtain ⟨rfl, hP, hK, hN⟩ := hv
  have hx := B.exec
  have hb := B.bytes
  have hr := B.returns
  have hg := zW.law (atoms_spec (ws := (zW yX9_enoughBy cX9_enoughBy 6 (some .int))) B.pre)
  have hown : s.vm.findClass RX9 = some m.cls := findClass_of_methodNamed B.named
  have hlocks := B.notSynchronized
  have hpe0 := hI.1.1
  have hl := lv_entry ([.ref (ad 0), .int set, .int q]) (n := 6) (Nat.le_of_ble_eq_true rfl)
  rw [lg_entry_eq]
  generalize (lg_sl ([.ref (ad 0), .int set, .int q]) ++ List.replicate (6 - (lg_sl ([.ref (ad 0), .int set, .int q])).length) Slot.unset).toArray = ls at hl ⊢
  have hl : lv_has ls 6 [(0, .ref (ad 0)), (1, .int set), (2, .int q)] := hl
  have q0 : ((0 : Int32)).toInt = 0 := by decide
  have qF : ((1000000000 : Int32)).toInt = 1000000000 := by decide
  refine lv_iload_n hx hb dX9_enoughBy_0 rfl (lv_at hl 1 rfl) ?_
  refine lv_aload_n hx hb dX9_enoughBy_1 rfl (lv_at hl 0 rfl) ?_
  obtain ⟨bks2, lks3, gos4, shn5, tpd6, pl07, ln08, flt9, opn10, cmy11, wtg12, nm013, mst14, sus15, cut16, h17, h18, h19, h20, h21, h22, h23, h24, h25, h26, h27, h28, h29, h30, h31, h32, h33, h34, h35, h36, hs1⟩ := a9_0 hI.1
  refine va_get (D := g.1) (ci := 9) (v := .ref (ad 29)) (C := RX9) (T := TX9) (N := 47) hx hb hg inG9 hown hK hP 0 (zw_at (by omega) hs1) rfl 43 (by decide) (hg _ mm_1001) (fun _ h9 => h9) rfl dX9_enoughBy_2 ?_
  refine lv_iload_n hx hb dX9_enoughBy_5 rfl (lv_at hl 2 rfl) ?_
  obtain ⟨f38, hs37⟩ := a9_29 hI.1
  refine va_iald hx hb hK hP 29 0 (zw_at (by omega) hs37) rfl (z_in rfl (by omega) (by omega)) dX9_enoughBy_6 ?_
  refine lv_topi (fun y39 ey39 => ?_)
  have hpp : zar (ct 29) q.toInt.toNat = y39 := by rw [zar_of hs37, ey39, z_cl (x := q) (k := q.toInt.toNat) (by omega)]
  refine lv_iand hx hb dX9_enoughBy_7 ?_
  refine lv_topi (fun x40 ex40 => ?_)
  have tx40 := z_andl (x := set) (y := y39) rfl (by omega)
  rw [← ex40] at tx40
  refine lv_istore_n (lv' := [(3, .int x40), (0, .ref (ad 0)), (1, .int set), (2, .int q)]) hx hb dX9_enoughBy_8 rfl hl (by decide) rfl (fun ls hl => ?_)
  refine lv_iload_n hx hb dX9_enoughBy_9 rfl (lv_at hl 2 rfl) ?_
  refine lv_aload_n hx hb dX9_enoughBy_10 rfl (lv_at hl 1 rfl) ?_
  refine va_get (D := g.1) (ci := 9) (v := .ref (ad 29)) (C := RX9) (T := TX9) (N := 47) hx hb hg inG9 hown hK hP 0 (zw_at (by omega) hs1) rfl 43 (by decide) (hg _ mm_1001) (fun _ h9 => h9) rfl dX9_enoughBy_11 ?_
  refine lv_iload_n hx hb dX9_enoughBy_14 rfl (lv_at hl 3 rfl) ?_
  refine va_iald hx hb hK hP 29 0 (zw_at (by omega) hs37) rfl (z_in rfl (by omega) (by omega)) dX9_enoughBy_15 ?_
  refine lv_topi (fun y41 ey41 => ?_)
  obtain rfl : y39 = y41 := ey39.trans ey41.symm
  refine lv_iconst (v := (-1)) hx hb dX9_enoughBy_16 (by decide) ?_
  refine lv_ixor hx hb dX9_enoughBy_17 ?_
  refine lv_topi (fun x42 ex42 => ?_)
  refine lv_iand hx hb dX9_enoughBy_18 ?_
  refine lv_topi (fun x43 ex43 => ?_)
  have tx43 := z_andl (x := set) (y := x42) rfl (by omega)
  rw [← ex43] at tx43
  refine lv_istore (lv' := [(4, .int x43), (3, .int x40), (0, .ref (ad 0)), (1, .int set), (2, .int q)]) hx hb dX9_enoughBy_19 hl (by decide) rfl (fun ls hl => ?_)
  refine lv_iload_n hx hb dX9_enoughBy_21 rfl (lv_at hl 1 rfl) ?_
  refine lv_if_eq (tgt := 30) hx hb dX9_enoughBy_22 (by decide) (fun c44 => ?_) (fun c44 => ?_)
  · skip
    have c44 : x40.toInt = 0 := (z_eq rfl (by decide : (0 : Int32).toInt = 0)).mp c44
    refine lv_ldcw hx hb hown (hg _ mm_1439) dX9_enoughBy_30 ?_
    have q45 : (1000000000 : Int32).toInt = 1000000000 := by decide
    exact W.iret (v := 1000000000) hx hb hr (fun t ht hW => ⟨1000000000, rfl, by rw [zeb_of (E := zar (ct 30)) (P := zar (ct 29)) (set := set) (p := y39) (x1 := x40) (x3 := x43) (y1 := (zar (ct 30) (Int32.toNatClampNeg x40))) (y2 := (zar (ct 30) (Int32.toNatClampNeg x43))) (q := q.toInt) hpp ex40 (by rw [ex43, ex42]) rfl rfl, if_pos (Or.inl (Int32.toInt_inj.mp (by omega)))], ht⟩) (fun q hq => by cases hq) dX9_enoughBy_33
  · skip
    have c44 : ¬ (x40.toInt = 0) := fun q => c44 ((z_eq rfl (by decide : (0 : Int32).toInt = 0)).mpr q)
    refine lv_iload hx hb dX9_enoughBy_25 (lv_at hl 0 rfl) ?_
    refine lv_if_ne (tgt := 34) hx hb dX9_enoughBy_27 (by decide) (fun c46 => ?_) (fun c46 => ?_)
    · skip
      have c46 : ¬ (x43.toInt = 0) := fun q => c46 ((z_eq rfl (by decide : (0 : Int32).toInt = 0)).mpr q)
      refine lv_aload_n hx hb dX9_enoughBy_34 rfl (lv_at hl 2 rfl) ?_
      refine va_get (D := g.1) (ci := 9) (v := .ref (ad 30)) (C := RX9) (T := TX9) (N := 47) hx hb hg inG9 hown hK hP 0 (zw_at (by omega) hs1) rfl 44 (by decide) (hg _ mm_1002) (fun _ h9 => h9) rfl dX9_enoughBy_35 ?_
      refine lv_iload_n hx hb dX9_enoughBy_38 rfl (lv_at hl 1 rfl) ?_
      obtain ⟨f48, hs47⟩ := a9_30 hI.1
      refine va_iald hx hb hK hP 30 0 (zw_at (by omega) hs47) rfl (z_in rfl (by omega) (by omega)) dX9_enoughBy_39 ?_
      refine lv_topi (fun y49 ey49 => ?_)
      refine lv_aload_n hx hb dX9_enoughBy_40 rfl (lv_at hl 2 rfl) ?_
      refine va_get (D := g.1) (ci := 9) (v := .ref (ad 30)) (C := RX9) (T := TX9) (N := 47) hx hb hg inG9 hown hK hP 0 (zw_at (by omega) hs1) rfl 44 (by decide) (hg _ mm_1002) (fun _ h9 => h9) rfl dX9_enoughBy_41 ?_
      refine lv_iload hx hb dX9_enoughBy_44 (lv_at hl 0 rfl) ?_
      refine va_iald hx hb hK hP 30 0 (zw_at (by omega) hs47) rfl (z_in rfl (by omega) (by omega)) dX9_enoughBy_46 ?_
      refine lv_topi (fun y50 ey50 => ?_)
      refine lv_icmp_le (tgt := 59) hx hb dX9_enoughBy_47 (by decide) (fun c51 => ?_) (fun c51 => ?_)
      · skip
        have c51 : y49.toInt ≤ y50.toInt := (z_le rfl rfl).mp c51
        refine lv_aload_n hx hb dX9_enoughBy_59 rfl (lv_at hl 2 rfl) ?_
        refine va_get (D := g.1) (ci := 9) (v := .ref (ad 30)) (C := RX9) (T := TX9) (N := 47) hx hb hg inG9 hown hK hP 0 (zw_at (by omega) hs1) rfl 44 (by decide) (hg _ mm_1002) (fun _ h9 => h9) rfl dX9_enoughBy_60 ?_
        refine lv_iload hx hb dX9_enoughBy_63 (lv_at hl 0 rfl) ?_
        refine va_iald hx hb hK hP 30 0 (zw_at (by omega) hs47) rfl (z_in rfl (by omega) (by omega)) dX9_enoughBy_65 ?_
        refine lv_topi (fun y52 ey52 => ?_)
        obtain rfl : y50 = y52 := ey50.trans ey52.symm
        refine lv_istore (lv' := [(5, .int y50), (4, .int x43), (3, .int x40), (0, .ref (ad 0)), (1, .int set), (2, .int q)]) hx hb dX9_enoughBy_66 hl (by decide) rfl (fun ls hl => ?_)
        refine lv_iload hx hb dX9_enoughBy_68 (lv_at hl 0 rfl) ?_
        refine lv_ldcw hx hb hown (hg _ mm_1439) dX9_enoughBy_70 ?_
        refine lv_icmp_ne (tgt := 82) hx hb dX9_enoughBy_73 (by decide) (fun c53 => ?_) (fun c53 => ?_)
        · skip
          have c53 : ¬ (y50.toInt = 1000000000) := fun q => c53 ((z_eq rfl (by decide : (1000000000 : Int32).toInt = 1000000000)).mpr q)
          refine lv_iload hx hb dX9_enoughBy_82 (lv_at hl 0 rfl) ?_
          refine lv_iconst (v := 1) hx hb dX9_enoughBy_84 (by decide) ?_
          refine lv_iadd hx hb dX9_enoughBy_85 ?_
          refine lv_topi (fun x54 ex54 => ?_)
          exact W.iret (v := x54) hx hb hr (fun t ht hW => ⟨x54, rfl, by (have hm : (if y50 < y49 then y49 else y50) = y50 := if_neg (fun q => by have q2 := Int32.lt_iff_toInt_lt.mp q; omega)); rw [zeb_of (E := zar (ct 30)) (P := zar (ct 29)) (set := set) (p := y39) (x1 := x40) (x3 := x43) (y1 := y49) (y2 := y50) (q := q.toInt) hpp ex40 (by rw [ex43, ex42]) (by rw [zar_of hs47]; exact ey49) (by rw [zar_of hs47]; exact ey50), if_neg (fun q => by rcases q with q | q <;> (have q2 := congrArg Int32.toInt q; omega)), hm, if_neg (fun q => by have q2 := congrArg Int32.toInt q; omega), ex54], ht⟩) (fun q hq => by cases hq) dX9_enoughBy_86
        · skip
          have c53 : y50.toInt = 1000000000 := (z_eq rfl (by decide : (1000000000 : Int32).toInt = 1000000000)).mp c53
          refine lv_ldcw hx hb hown (hg _ mm_1439) dX9_enoughBy_76 ?_
          refine lv_goto (tgt := 86) hx hb dX9_enoughBy_79 (by decide) ?_
          have q55 : (1000000000 : Int32).toInt = 1000000000 := by decide
          exact W.iret (v := 1000000000) hx hb hr (fun t ht hW => ⟨1000000000, rfl, by (have hm : (if y50 < y49 then y49 else y50) = y50 := if_neg (fun q => by have q2 := Int32.lt_iff_toInt_lt.mp q; omega)); rw [zeb_of (E := zar (ct 30)) (P := zar (ct 29)) (set := set) (p := y39) (x1 := x40) (x3 := x43) (y1 := y49) (y2 := y50) (q := q.toInt) hpp ex40 (by rw [ex43, ex42]) (by rw [zar_of hs47]; exact ey49) (by rw [zar_of hs47]; exact ey50), if_neg (fun q => by rcases q with q | q <;> (have q2 := congrArg Int32.toInt q; omega)), hm, if_pos (Int32.toInt_inj.mp (by omega))], ht⟩) (fun q hq => by cases hq) dX9_enoughBy_86
      · skip
        have c51 : ¬ (y49.toInt ≤ y50.toInt) := fun q => c51 ((z_le rfl rfl).mpr q)
        refine lv_aload_n hx hb dX9_enoughBy_50 rfl (lv_at hl 2 rfl) ?_
        refine va_get (D := g.1) (ci := 9) (v := .ref (ad 30)) (C := RX9) (T := TX9) (N := 47) hx hb hg inG9 hown hK hP 0 (zw_at (by omega) hs1) rfl 44 (by decide) (hg _ mm_1002) (fun _ h9 => h9) rfl dX9_enoughBy_51 ?_
        refine lv_iload_n hx hb dX9_enoughBy_54 rfl (lv_at hl 1 rfl) ?_
        refine va_iald hx hb hK hP 30 0 (zw_at (by omega) hs47) rfl (z_in rfl (by omega) (by omega)) dX9_enoughBy_55 ?_
        refine lv_topi (fun y56 ey56 => ?_)
        obtain rfl : y49 = y56 := ey49.trans ey56.symm
        refine lv_goto (tgt := 66) hx hb dX9_enoughBy_56 (by decide) ?_
        refine lv_istore (lv' := [(5, .int y49), (4, .int x43), (3, .int x40), (0, .ref (ad 0)), (1, .int set), (2, .int q)]) hx hb dX9_enoughBy_66 hl (by decide) rfl (fun ls hl => ?_)
        refine lv_iload hx hb dX9_enoughBy_68 (lv_at hl 0 rfl) ?_
        refine lv_ldcw hx hb hown (hg _ mm_1439) dX9_enoughBy_70 ?_
        refine lv_icmp_ne (tgt := 82) hx hb dX9_enoughBy_73 (by decide) (fun c57 => ?_) (fun c57 => ?_)
        · skip
          have c57 : ¬ (y49.toInt = 1000000000) := fun q => c57 ((z_eq rfl (by decide : (1000000000 : Int32).toInt = 1000000000)).mpr q)
          refine lv_iload hx hb dX9_enoughBy_82 (lv_at hl 0 rfl) ?_
          refine lv_iconst (v := 1) hx hb dX9_enoughBy_84 (by decide) ?_
          refine lv_iadd hx hb dX9_enoughBy_85 ?_
          refine lv_topi (fun x58 ex58 => ?_)
          exact W.iret (v := x58) hx hb hr (fun t ht hW => ⟨x58, rfl, by (have hm : (if y50 < y49 then y49 else y50) = y49 := if_pos (Int32.lt_iff_toInt_lt.mpr (by omega))); rw [zeb_of (E := zar (ct 30)) (P := zar (ct 29)) (set := set) (p := y39) (x1 := x40) (x3 := x43) (y1 := y49) (y2 := y50) (q := q.toInt) hpp ex40 (by rw [ex43, ex42]) (by rw [zar_of hs47]; exact ey49) (by rw [zar_of hs47]; exact ey50), if_neg (fun q => by rcases q with q | q <;> (have q2 := congrArg Int32.toInt q; omega)), hm, if_neg (fun q => by have q2 := congrArg Int32.toInt q; omega), ex58], ht⟩) (fun q hq => by cases hq) dX9_enoughBy_86
        · skip
          have c57 : y49.toInt = 1000000000 := (z_eq rfl (by decide : (1000000000 : Int32).toInt = 1000000000)).mp c57
          refine lv_ldcw hx hb hown (hg _ mm_1439) dX9_enoughBy_76 ?_
          refine lv_goto (tgt := 86) hx hb dX9_enoughBy_79 (by decide) ?_
          have q59 : (1000000000 : Int32).toInt = 1000000000 := by decide
          exact W.iret (v := 1000000000) hx hb hr (fun t ht hW => ⟨1000000000, rfl, by (have hm : (if y50 < y49 then y49 else y50) = y49 := if_pos (Int32.lt_iff_toInt_lt.mpr (by omega))); rw [zeb_of (E := zar (ct 30)) (P := zar (ct 29)) (set := set) (p := y39) (x1 := x40) (x3 := x43) (y1 := y49) (y2 := y50) (q := q.toInt) hpp ex40 (by rw [ex43, ex42]) (by rw [zar_of hs47]; exact ey49) (by rw [zar_of hs47]; exact ey50), if_neg (fun q => by rcases q with q | q <;> (have q2 := congrArg Int32.toInt q; omega)), hm, if_pos (Int32.toInt_inj.mp (by omega))], ht⟩) (fun q hq => by cases hq) dX9_enoughBy_86
    · skip
      have c46 : x43.toInt = 0 := (z_eq rfl (by decide : (0 : Int32).toInt = 0)).mp c46
      refine lv_ldcw hx hb hown (hg _ mm_1439) dX9_enoughBy_30 ?_
      have q60 : (1000000000 : Int32).toInt = 1000000000 := by decide
      exact W.iret (v := 1000000000) hx hb hr (fun t ht hW => ⟨1000000000, rfl, by rw [zeb_of (E := zar (ct 30)) (P := zar (ct 29)) (set := set) (p := y39) (x1 := x40) (x3 := x43) (y1 := (zar (ct 30) (Int32.toNatClampNeg x40))) (y2 := (zar (ct 30) (Int32.toNatClampNeg x43))) (q := q.toInt) hpp ex40 (by rw [ex43, ex42]) rfl rfl, if_pos (Or.inr (Int32.toInt_inj.mp (by omega)))], ht⟩) (fun q hq => by cases hq) dX9_enoughBy_33

set_option maxHeartbeats 4000000 in
set_option maxRecDepth 100000 in
theorem k_X9_laysEnough (l : Launch) (g : zG) (sz : Nat) (ad : Nat → Nat) (me : Int32) (ct : Nat → va_E) (hI : IR g ad me ct) (hs1 : 1 ≤ zfi 41 (ct 0) ∧ zfi 41 (ct 0) ≤ 16) : Met l yX9_laysEnough (zW yX9_laysEnough cX9_laysEnough 4 none) ({ frames := 1, cells := 0, slots := 0, locals := 25 }) (va_Pc [.ref (ad 0)] (zA g (zw 32 ad ct) sz)) (va_Qv (fun (_ : Unit) => True) (fun _ t => ∃ ct2 : Nat → va_E, zP g (zw 32 ad ct2) t.heap ∧ va_D (va_A (zw 32 ad ct) sz) (zw 32 ad ct2) ∧ IR g ad me ct2 ∧ (EQL (zar (ct2 30)) (zar (ct 29)) ((2 ^ (zfi 41 (ct 0)).toNat : Nat) : Int)) ∧ (ct2 0 = ct 0) ∧ (ct2 29 = ct 29)) (va_A (zw 32 ad ct) sz)) 0 0 (va_A (zw 32 ad ct) sz) := by
  refine Met.ofW (cc := cX9_laysEnough) (maxL := 4) (ret := none) (by decide) rfl ?_
  intro p e s m args below meth c s₁ B hml hv
  obtain ⟨rfl, hsz, hP, hK, hD0, hN⟩ := hv
  have hx := B.exec
  have hb := B.bytes
  have hr := B.returns
  have hg := zW.law (atoms_spec (ws := (zW yX9_laysEnough cX9_laysEnough 4 none)) B.pre)
  have hown : s.vm.findClass RX9 = some m.cls := findClass_of_methodNamed B.named
  have hlocks := B.notSynchronized
  have hpe0 := hI.1.1
  subst hsz
  have hD := hD0.self (sz := s.heap.size)
  generalize hAe : va_A (zw 32 ad ct) s.heap.size = A at hD ⊢
  have hA : ∀ q : Nat, s.heap.size ≤ q → A q := fun q h => by rw [← hAe]; exact Or.inr h
  have hS : va_S A s.heap s.heap [] := va_S.rf
  have hl := lv_entry ([.ref (ad 0)]) (n := 4) (Nat.le_of_ble_eq_true rfl)
  rw [lg_entry_eq]
  generalize (lg_sl ([.ref (ad 0)]) ++ List.replicate (4 - (lg_sl ([.ref (ad 0)])).length) Slot.unset).toArray = ls at hl ⊢
  have hl : lv_has ls 4 [(0, .ref (ad 0))] := hl
  have hc0 : ct 0 = ct 0 := rfl
  have hc29 : ct 29 = ct 29 := rfl
  have q0 : ((0 : Int32)).toInt = 0 := by decide
  have q1 : ((1 : Int32)).toInt = 1 := by decide
  have qF : ((1000000000 : Int32)).toInt = 1000000000 := by decide
  obtain ⟨bks2, lks3, gos4, shn5, tpd6, pl07, ln08, flt9, opn10, cmy11, wtg12, nm013, mst14, sus15, cut16, h17, h18, h19, h20, h21, h22, h23, h24, h25, h26, h27, h28, h29, h30, h31, h32, h33, h34, h35, h36, hs1⟩ := a9_0 hI.1
  have z41_hs1 : zfi 41 (ct 0) = sus15.toInt := by rw [hs1]; rfl
  have hp1 := Nat.one_le_two_pow (n := (zfi 41 (ct 0)).toNat)
  have hp2 : 2 ^ (zfi 41 (ct 0)).toNat ≤ 2 ^ 16 := Nat.pow_le_pow_right (by decide) (by omega)
  have hp3 : (2 : Nat) ^ 16 = 65536 := by decide
  rw [hp3] at hp2
  refine lv_iconst (v := 1) hx hb dX9_laysEnough_0 (by decide) ?_
  refine lv_istore_n (lv' := [(1, .int 1), (0, .ref (ad 0))]) hx hb dX9_laysEnough_1 rfl hl (by decide) rfl (fun ls hl => ?_)
  have loop2 : ∀ (n2 : Nat) (v1_2 : Int32) (ct37 : Nat → va_E) (H : Heap) (locs : List Loc) (ls : Array Slot), ((65536 - v1_2.toInt : Int).toNat < n2) → (1 ≤ v1_2.toInt ∧ v1_2.toInt ≤ 65536) → (v1_2.toInt ≤ ((2 ^ (zfi 41 (ct 0)).toNat : Nat) : Int)) → (EQL (zar (ct37 30)) (zar (ct 29)) v1_2.toInt) → (ct37 0 = ct 0) → (ct37 29 = ct 29) → (IR g ad me ct37) → zP g (zw 32 ad ct37) H → va_D A (zw 32 ad ct37) → va_S A s.heap H locs → lv_has ls 4 [(1, .int v1_2), (0, .ref (ad 0))] → W p l e (headSpec (zW yX9_laysEnough cX9_laysEnough 4 none) ({ frames := 1, cells := 0, slots := 0, locals := 25 })).room s m ([.ref (ad 0)] : List Value).toArray below meth c H locs 0 0 (MQ below (va_Qv (fun (_ : Unit) => True) (fun _ t => ∃ ct2 : Nat → va_E, zP g (zw 32 ad ct2) t.heap ∧ va_D A (zw 32 ad ct2) ∧ IR g ad me ct2 ∧ (EQL (zar (ct2 30)) (zar (ct 29)) ((2 ^ (zfi 41 (ct 0)).toNat : Nat) : Int)) ∧ (ct2 0 = ct 0) ∧ (ct2 29 = ct 29)) A) ([.ref (ad 0)] : List Value).toArray s 0 0 A) (F0 m 2 ls []) := by
    intro n2
    induction n2 with
    | zero =>
      intro v1_2 ct37 H locs ls hn2 b1_2 j0_2 j1_2 hc0 hc29 hI hP hD hS hl
      exact absurd hn2 (Nat.not_lt_zero _)
    | succ n2 ih2 =>
      intro v1_2 ct37 H locs ls hn2 b1_2 j0_2 j1_2 hc0 hc29 hI hP hD hS hl
      refine lv_iload_n hx hb dX9_laysEnough_2 rfl (lv_at hl 0 rfl) ?_
      refine lv_iconst (v := 1) hx hb dX9_laysEnough_3 (by decide) ?_
      refine lv_aload_n hx hb dX9_laysEnough_4 rfl (lv_at hl 1 rfl) ?_
      obtain ⟨bks39, lks40, gos41, shn42, tpd43, pl044, ln045, flt46, opn47, cmy48, wtg49, nm050, mst51, sus52, cut53, h54, h55, h56, h57, h58, h59, h60, h61, h62, h63, h64, h65, h66, h67, h68, h69, h70, h71, h72, h73, hs38⟩ := a9_0 hI.1
      have z41_hs38 : zfi 41 (ct37 0) = sus52.toInt := by rw [hs38]; rfl
      refine va_get (D := g.1) (ci := 9) (v := .int sus52) (C := RX9) (T := TX9) (N := 47) hx hb hg inG9 hown hK hP 0 (zw_at (by omega) hs38) rfl 41 (by decide) (hg _ mm_999) (fun _ h9 => h9) rfl dX9_laysEnough_5 ?_
      refine lv_ishl hx hb dX9_laysEnough_8 ?_
      refine lv_topi (fun x74 ex74 => ?_)
      have tx74 := z_shl1e (y := sus52) (by omega) (by omega)
      rw [← ex74] at tx74
      have hz41 : zfi 41 (ct 0) = sus52.toInt := by rw [← hc0]; exact z41_hs38
      have hpw : ((2 ^ (zfi 41 (ct 0)).toNat : Nat) : Int) = x74.toInt := by rw [hz41]; exact tx74.1.symm
      refine lv_icmp_ge (tgt := 95) hx hb dX9_laysEnough_9 (by decide) (fun c75 => ?_) (fun c75 => ?_)
      · skip
        have c75 : x74.toInt ≤ v1_2.toInt := (z_le rfl rfl).mp c75
        exact W.vret hx hb hr (fun t ht hW => ⟨⟨(), rfl, trivial, ct37, by rw [ht]; exact hP, hD, hI, (by rw [show ((2 ^ (zfi 41 (ct 0)).toNat : Nat) : Int) = v1_2.toInt by omega]; exact j1_2), (by first | assumption | omega), (by first | assumption | omega)⟩, hS.F ht⟩) hS.2.2 dX9_laysEnough_95
      · skip
        have c75 : ¬ (x74.toInt ≤ v1_2.toInt) := fun q => c75 ((z_le rfl rfl).mpr q)
        refine lv_aload_n hx hb dX9_laysEnough_12 rfl (lv_at hl 1 rfl) ?_
        refine va_get (D := g.1) (ci := 9) (v := .ref (ad 30)) (C := RX9) (T := TX9) (N := 47) hx hb hg inG9 hown hK hP 0 (zw_at (by omega) hs38) rfl 44 (by decide) (hg _ mm_1002) (fun _ h9 => h9) rfl dX9_laysEnough_13 ?_
        refine lv_iload_n hx hb dX9_laysEnough_16 rfl (lv_at hl 0 rfl) ?_
        refine lv_iload_n hx hb dX9_laysEnough_17 rfl (lv_at hl 0 rfl) ?_
        refine zc_i (va_runS (As := [.int v1_2]) (rest := [.int v1_2, .ref (ad 30)]) ⟨hx, hb, hml, hown, hg⟩ (k_X9_bitsv l g ad me ct37 v1_2 hI) (va_cwS 1 hg (z_gS mm_1373 mm_1374 mm_117 mm_1375) rfl rfl rfl (by decide +kernel) ⟨Nat.le_of_ble_eq_true rfl, Nat.le_of_ble_eq_true rfl⟩) (zR.pre [.int v1_2] hP hK hN) rfl rfl hl.1 rfl (lv_room (Nat.le_of_ble_eq_true rfl)) dX9_laysEnough_18 ⟨Nat.le_of_ble_eq_true rfl, Nat.le_of_ble_eq_true rfl⟩) (fun r76 hr76 => ?_)
        obtain ⟨hr76_0, hr76_1, hr76_2⟩ := hr76
        have hr76_0 : 0 ≤ r76.toInt := hr76_0
        have hr76_1 : r76.toInt ≤ 16 := hr76_1
        have hr76_2 : r76.toInt = zpop v1_2 16 := hr76_2
        refine lv_iconst (v := 1) hx hb dX9_laysEnough_21 (by decide) ?_
        refine lv_icmp_ne (tgt := 29) hx hb dX9_laysEnough_22 (by decide) (fun c77 => ?_) (fun c77 => ?_)
        · skip
          have c77 : ¬ (r76.toInt = 1) := fun q => c77 ((z_eq rfl (by decide : (1 : Int32).toInt = 1)).mpr q)
          refine lv_ldcw hx hb hown (hg _ mm_1439) dX9_laysEnough_29 ?_
          obtain ⟨f79, hs78⟩ := a9_30 hI.1
          refine va_iast hx hb hK hP hD hS 30 0 (zw_at (by omega) hs78) rfl (z_in rfl (by omega) (by omega)) dX9_laysEnough_32 (fun H locs hP hD hS => ?_)
          have hP : zP g ((zw 32 ad ct37).set 30 (ad 30, .inl (g.2 0, 65536, .inl (upd f79 (Int32.toNatClampNeg v1_2) 1000000000)))) H := hP
          have hD : va_D A ((zw 32 ad ct37).set 30 (ad 30, .inl (g.2 0, 65536, .inl (upd f79 (Int32.toNatClampNeg v1_2) 1000000000)))) := hD
          rw [zw_set (by omega)] at hP hD
          obtain ⟨ct81, ec82⟩ : ∃ z : Nat → va_E, z = va_up ct37 30 (.inl (g.2 0, 65536, .inl (upd f79 (Int32.toNatClampNeg v1_2) 1000000000))) := ⟨_, rfl⟩
          rw [← ec82] at hP hD
          have hI : IR g ad me ct81 := by rw [ec82]; exact upR hI (by decide) (i9_30 ⟨_, rfl⟩)
          have hc0 : ct81 0 = ct 0 := by rw [ec82]; exact (va_up_ne _ _ (by omega)).trans hc0
          have hc29 : ct81 29 = ct 29 := by rw [ec82]; exact (va_up_ne _ _ (by omega)).trans hc29
          have hs83 : ct81 0 = .inr (9, [.int me, .ref (ad 1), .ref (ad 2), .ref (ad 3), .ref (ad 4), .int bks39, .int lks40, .int gos41, .int shn42, .ref (ad 5), .ref (ad 6), .ref (ad 7), .ref (ad 8), .ref (ad 9), .ref (ad 10), .ref (ad 11), .int tpd43, .int pl044, .int ln045, .int flt46, .int opn47, .int cmy48, .int wtg49, .int nm050, .ref (ad 12), .ref (ad 13), .ref (ad 14), .ref (ad 15), .ref (ad 16), .ref (ad 17), .ref (ad 18), .ref (ad 19), .ref (ad 20), .ref (ad 21), .ref (ad 22), .ref (ad 23), .ref (ad 24), .ref (ad 25), .ref (ad 26), .ref (ad 27), .int mst51, .int sus52, .ref (ad 28), .ref (ad 29), .ref (ad 30), .ref (ad 31), .int cut53]) := by rw [ec82, va_up_ne _ _ (by omega)]; exact hs38
          have hs84 : ct81 30 = .inl (g.2 0, 65536, .inl (upd f79 (Int32.toNatClampNeg v1_2) 1000000000)) := by rw [ec82]; exact va_up_self _ _ _
          have z41_hs83 : zfi 41 (ct81 0) = (sus52 : Int32).toInt := by rw [hs83]; rfl
          refine lv_iconst (v := 0) hx hb dX9_laysEnough_33 (by decide) ?_
          refine lv_istore_n (lv' := [(2, .int 0), (1, .int v1_2), (0, .ref (ad 0))]) hx hb dX9_laysEnough_34 rfl hl (by decide) rfl (fun ls hl => ?_)
          have loop35 : ∀ (n35 : Nat) (v2_35 : Int32) (ct85 : Nat → va_E) (H : Heap) (locs : List Loc) (ls : Array Slot), ((128 - v2_35.toInt : Int).toNat < n35) → (0 ≤ v2_35.toInt ∧ v2_35.toInt ≤ 128) → (zpop v1_2 16 ≤ 1 ∨ EQ (zar (ct85 30)) (zar (ct 29)) v1_2 v2_35.toInt) → (ct85 0 = ct 0) → (ct85 29 = ct 29) → (IR g ad me ct85) → zP g (zw 32 ad ct85) H → va_D A (zw 32 ad ct85) → va_S A s.heap H locs → lv_has ls 4 [(2, .int v2_35), (1, .int v1_2), (0, .ref (ad 0))] → W p l e (headSpec (zW yX9_laysEnough cX9_laysEnough 4 none) ({ frames := 1, cells := 0, slots := 0, locals := 25 })).room s m ([.ref (ad 0)] : List Value).toArray below meth c H locs 0 0 (MQ below (va_Qv (fun (_ : Unit) => True) (fun _ t => ∃ ct2 : Nat → va_E, zP g (zw 32 ad ct2) t.heap ∧ va_D A (zw 32 ad ct2) ∧ IR g ad me ct2 ∧ (EQL (zar (ct2 30)) (zar (ct 29)) ((2 ^ (zfi 41 (ct 0)).toNat : Nat) : Int)) ∧ (ct2 0 = ct 0) ∧ (ct2 29 = ct 29)) A) ([.ref (ad 0)] : List Value).toArray s 0 0 A) (F0 m 35 ls []) := by
            intro n35
            induction n35 with
            | zero =>
              intro v2_35 ct85 H locs ls hn35 b2_35 j0_35 hc0 hc29 hI hP hD hS hl
              exact absurd hn35 (Nat.not_lt_zero _)
            | succ n35 ih35 =>
              intro v2_35 ct85 H locs ls hn35 b2_35 j0_35 hc0 hc29 hI hP hD hS hl
              refine lv_iload_n hx hb dX9_laysEnough_35 rfl (lv_at hl 0 rfl) ?_
              refine lv_sipush (v := 128) hx hb dX9_laysEnough_36 (by decide) ?_
              refine lv_icmp_ge (tgt := 89) hx hb dX9_laysEnough_39 (by decide) (fun c86 => ?_) (fun c86 => ?_)
              · skip
                have c86 : 128 ≤ v2_35.toInt := (z_le (by decide : (128 : Int32).toInt = 128) rfl).mp c86
                have hdone : zpop v1_2 16 ≤ 1 ∨ EQ (zar (ct85 30)) (zar (ct 29)) v1_2 128 := by
                  rw [show (128 : Int) = v2_35.toInt by omega]
                  exact j0_35
                obtain ⟨x87, ex87⟩ : ∃ y : Int32, y = v1_2 + 1 := ⟨_, rfl⟩
                have tx87 : x87.toInt = v1_2.toInt + 1 := by rw [ex87]; exact z_add rfl (by decide : (1 : Int32).toInt = 1) (by omega) (by omega)
                refine lv_iinc (v := x87) (lv' := [(1, .int x87), (2, .int v2_35), (0, .ref (ad 0))]) hx hb dX9_laysEnough_89 hl (k := 1) rfl (by rw [ex87]; rfl) (by decide) rfl (fun ls hl => ?_)
                have hql : EQL (zar (ct85 30)) (zar (ct 29)) x87.toInt := Or.inr ⟨v1_2, by omega, hdone⟩
                refine lv_goto (tgt := 2) hx hb dX9_laysEnough_92 (by decide) ?_
                obtain ⟨bks89, lks90, gos91, shn92, tpd93, pl094, ln095, flt96, opn97, cmy98, wtg99, nm0100, mst101, sus102, cut103, h104, h105, h106, h107, h108, h109, h110, h111, h112, h113, h114, h115, h116, h117, h118, h119, h120, h121, h122, h123, hs88⟩ := a9_0 hI.1
                have z41_hs88 : zfi 41 (ct85 0) = sus102.toInt := by rw [hs88]; rfl
                exact ih2 x87 ct85 _ _ ls (by omega) (by first | assumption | omega | decide) (by first | assumption | omega | decide) (by first | assumption | omega | decide) (by first | assumption | omega | decide) (by first | assumption | omega | decide) hI hP hD hS (lv_sub hl [0, 2] rfl)
              · skip
                have c86 : ¬ (128 ≤ v2_35.toInt) := fun q => c86 ((z_le (by decide : (128 : Int32).toInt = 128) rfl).mpr q)
                refine lv_iload_n hx hb dX9_laysEnough_42 rfl (lv_at hl 1 rfl) ?_
                refine zc_i (va_runS (As := [.int v1_2]) (rest := []) ⟨hx, hb, hml, hown, hg⟩ (k_X9_bitsv l g ad me ct85 v1_2 hI) (va_cwS 1 hg (z_gS mm_1373 mm_1374 mm_117 mm_1375) rfl rfl rfl (by decide +kernel) ⟨Nat.le_of_ble_eq_true rfl, Nat.le_of_ble_eq_true rfl⟩) (zR.pre [.int v1_2] hP hK hN) rfl rfl hl.1 rfl (lv_room (Nat.le_of_ble_eq_true rfl)) dX9_laysEnough_43 ⟨Nat.le_of_ble_eq_true rfl, Nat.le_of_ble_eq_true rfl⟩) (fun r124 hr124 => ?_)
                obtain ⟨hr124_0, hr124_1, hr124_2⟩ := hr124
                have hr124_0 : 0 ≤ r124.toInt := hr124_0
                have hr124_1 : r124.toInt ≤ 16 := hr124_1
                have hr124_2 : r124.toInt = zpop v1_2 16 := hr124_2
                refine lv_iconst (v := 1) hx hb dX9_laysEnough_46 (by decide) ?_
                refine lv_icmp_le (tgt := 89) hx hb dX9_laysEnough_47 (by decide) (fun c125 => ?_) (fun c125 => ?_)
                · skip
                  have c125 : r124.toInt ≤ 1 := (z_le rfl (by decide : (1 : Int32).toInt = 1)).mp c125
                  have hdone : zpop v1_2 16 ≤ 1 ∨ EQ (zar (ct85 30)) (zar (ct 29)) v1_2 128 := Or.inl (by omega)
                  obtain ⟨x126, ex126⟩ : ∃ y : Int32, y = v1_2 + 1 := ⟨_, rfl⟩
                  have tx126 : x126.toInt = v1_2.toInt + 1 := by rw [ex126]; exact z_add rfl (by decide : (1 : Int32).toInt = 1) (by omega) (by omega)
                  refine lv_iinc (v := x126) (lv' := [(1, .int x126), (2, .int v2_35), (0, .ref (ad 0))]) hx hb dX9_laysEnough_89 hl (k := 1) rfl (by rw [ex126]; rfl) (by decide) rfl (fun ls hl => ?_)
                  have hql : EQL (zar (ct85 30)) (zar (ct 29)) x126.toInt := Or.inr ⟨v1_2, by omega, hdone⟩
                  refine lv_goto (tgt := 2) hx hb dX9_laysEnough_92 (by decide) ?_
                  obtain ⟨bks128, lks129, gos130, shn131, tpd132, pl0133, ln0134, flt135, opn136, cmy137, wtg138, nm0139, mst140, sus141, cut142, h143, h144, h145, h146, h147, h148, h149, h150, h151, h152, h153, h154, h155, h156, h157, h158, h159, h160, h161, h162, hs127⟩ := a9_0 hI.1
                  have z41_hs127 : zfi 41 (ct85 0) = sus141.toInt := by rw [hs127]; rfl
                  exact ih2 x126 ct85 _ _ ls (by omega) (by first | assumption | omega | decide) (by first | assumption | omega | decide) (by first | assumption | omega | decide) (by first | assumption | omega | decide) (by first | assumption | omega | decide) hI hP hD hS (lv_sub hl [0, 2] rfl)
                · skip
                  have c125 : ¬ (r124.toInt ≤ 1) := fun q => c125 ((z_le rfl (by decide : (1 : Int32).toInt = 1)).mpr q)
                  refine lv_aload_n hx hb dX9_laysEnough_50 rfl (lv_at hl 2 rfl) ?_
                  refine lv_iload_n hx hb dX9_laysEnough_51 rfl (lv_at hl 1 rfl) ?_
                  refine lv_iload_n hx hb dX9_laysEnough_52 rfl (lv_at hl 0 rfl) ?_
                  obtain ⟨bks164, lks165, gos166, shn167, tpd168, pl0169, ln0170, flt171, opn172, cmy173, wtg174, nm0175, mst176, sus177, cut178, h179, h180, h181, h182, h183, h184, h185, h186, h187, h188, h189, h190, h191, h192, h193, h194, h195, h196, h197, h198, hs163⟩ := a9_0 hI.1
                  have z41_hs163 : zfi 41 (ct85 0) = sus177.toInt := by rw [hs163]; rfl
                  refine zc_i (va_runV (As := [.int v1_2, .int v2_35]) (rest := []) ⟨hx, hb, hml, hown, hg⟩ (k_X9_enoughBy l g ad me ct85 v1_2 v2_35 (by first | omega | decide) (by first | omega | decide) hI) (cwV 2 hg (z_gV mm_1440 mm_1442 mm_101 mm_117 mm_1443) rfl rfl rfl (by decide +kernel) ⟨Nat.le_of_ble_eq_true rfl, Nat.le_of_ble_eq_true rfl⟩) ⟨(zR.pre [.ref (ad 0), .int v1_2, .int v2_35] hP hK hN).1, va_recv hK hP (ci := 9) (q0 := 0) rfl (zw_at (by omega) hs163), (zR.pre [.ref (ad 0), .int v1_2, .int v2_35] hP hK hN).2⟩ rfl rfl hl.1 rfl (lv_room (Nat.le_of_ble_eq_true rfl)) dX9_laysEnough_53 ⟨Nat.le_of_ble_eq_true rfl, Nat.le_of_ble_eq_true rfl⟩) (fun r199 hr199 => ?_)
                  have hr199_0 := hr199
                  have hr199_0 : r199 = zeb (zar (ct85 30)) (zar (ct85 29)) v1_2 v2_35.toInt := hr199_0
                  refine lv_istore_n (lv' := [(3, .int r199), (2, .int v2_35), (1, .int v1_2), (0, .ref (ad 0))]) hx hb dX9_laysEnough_56 rfl hl (by decide) rfl (fun ls hl => ?_)
                  refine lv_aload_n hx hb dX9_laysEnough_57 rfl (lv_at hl 3 rfl) ?_
                  refine va_get (D := g.1) (ci := 9) (v := .ref (ad 30)) (C := RX9) (T := TX9) (N := 47) hx hb hg inG9 hown hK hP 0 (zw_at (by omega) hs163) rfl 44 (by decide) (hg _ mm_1002) (fun _ h9 => h9) rfl dX9_laysEnough_58 ?_
                  refine lv_iload_n hx hb dX9_laysEnough_61 rfl (lv_at hl 2 rfl) ?_
                  refine lv_iload_n hx hb dX9_laysEnough_62 rfl (lv_at hl 0 rfl) ?_
                  refine lv_aload_n hx hb dX9_laysEnough_63 rfl (lv_at hl 3 rfl) ?_
                  refine va_get (D := g.1) (ci := 9) (v := .ref (ad 30)) (C := RX9) (T := TX9) (N := 47) hx hb hg inG9 hown hK hP 0 (zw_at (by omega) hs163) rfl 44 (by decide) (hg _ mm_1002) (fun _ h9 => h9) rfl dX9_laysEnough_64 ?_
                  refine lv_iload_n hx hb dX9_laysEnough_67 rfl (lv_at hl 2 rfl) ?_
                  obtain ⟨f201, hs200⟩ := a9_30 hI.1
                  refine va_iald hx hb hK hP 30 0 (zw_at (by omega) hs200) rfl (z_in rfl (by omega) (by omega)) dX9_laysEnough_68 ?_
                  refine lv_topi (fun y202 ey202 => ?_)
                  refine lv_icmp_ge (tgt := 76) hx hb dX9_laysEnough_69 (by decide) (fun c203 => ?_) (fun c203 => ?_)
                  · skip
                    have c203 : y202.toInt ≤ r199.toInt := (z_le rfl rfl).mp c203
                    refine lv_aload_n hx hb dX9_laysEnough_76 rfl (lv_at hl 3 rfl) ?_
                    refine va_get (D := g.1) (ci := 9) (v := .ref (ad 30)) (C := RX9) (T := TX9) (N := 47) hx hb hg inG9 hown hK hP 0 (zw_at (by omega) hs163) rfl 44 (by decide) (hg _ mm_1002) (fun _ h9 => h9) rfl dX9_laysEnough_77 ?_
                    refine lv_iload_n hx hb dX9_laysEnough_80 rfl (lv_at hl 2 rfl) ?_
                    refine va_iald hx hb hK hP 30 0 (zw_at (by omega) hs200) rfl (z_in rfl (by omega) (by omega)) dX9_laysEnough_81 ?_
                    refine lv_topi (fun y204 ey204 => ?_)
                    obtain rfl : y202 = y204 := ey202.trans ey204.symm
                    have k29 := hc29
                    refine va_iast hx hb hK hP hD hS 30 0 (zw_at (by omega) hs200) rfl (z_in rfl (by omega) (by omega)) dX9_laysEnough_82 (fun H locs hP hD hS => ?_)
                    have hP : zP g ((zw 32 ad ct85).set 30 (ad 30, .inl (g.2 0, 65536, .inl (upd f201 (Int32.toNatClampNeg v1_2) y202)))) H := hP
                    have hD : va_D A ((zw 32 ad ct85).set 30 (ad 30, .inl (g.2 0, 65536, .inl (upd f201 (Int32.toNatClampNeg v1_2) y202)))) := hD
                    rw [zw_set (by omega)] at hP hD
                    obtain ⟨ct206, ec207⟩ : ∃ z : Nat → va_E, z = va_up ct85 30 (.inl (g.2 0, 65536, .inl (upd f201 (Int32.toNatClampNeg v1_2) y202))) := ⟨_, rfl⟩
                    rw [← ec207] at hP hD
                    have hI : IR g ad me ct206 := by rw [ec207]; exact upR hI (by decide) (i9_30 ⟨_, rfl⟩)
                    have hc0 : ct206 0 = ct 0 := by rw [ec207]; exact (va_up_ne _ _ (by omega)).trans hc0
                    have hc29 : ct206 29 = ct 29 := by rw [ec207]; exact (va_up_ne _ _ (by omega)).trans hc29
                    have hs208 : ct206 0 = .inr (9, [.int me, .ref (ad 1), .ref (ad 2), .ref (ad 3), .ref (ad 4), .int bks164, .int lks165, .int gos166, .int shn167, .ref (ad 5), .ref (ad 6), .ref (ad 7), .ref (ad 8), .ref (ad 9), .ref (ad 10), .ref (ad 11), .int tpd168, .int pl0169, .int ln0170, .int flt171, .int opn172, .int cmy173, .int wtg174, .int nm0175, .ref (ad 12), .ref (ad 13), .ref (ad 14), .ref (ad 15), .ref (ad 16), .ref (ad 17), .ref (ad 18), .ref (ad 19), .ref (ad 20), .ref (ad 21), .ref (ad 22), .ref (ad 23), .ref (ad 24), .ref (ad 25), .ref (ad 26), .ref (ad 27), .int mst176, .int sus177, .ref (ad 28), .ref (ad 29), .ref (ad 30), .ref (ad 31), .int cut178]) := by rw [ec207, va_up_ne _ _ (by omega)]; exact hs163
                    have hs209 : ct206 30 = .inl (g.2 0, 65536, .inl (upd f201 (Int32.toNatClampNeg v1_2) y202)) := by rw [ec207]; exact va_up_self _ _ _
                    have z41_hs208 : zfi 41 (ct206 0) = (sus177 : Int32).toInt := by rw [hs208]; rfl
                    have heq : EQ (zar (ct206 30)) (zar (ct 29)) v1_2 (v2_35.toInt + 1) := by
                      rw [zar_of hs209]
                      exact EQ_keep (by omega) (by
                        rcases j0_35 with q | q
                        · omega
                        · rw [← zar_of hs200]; exact q) ey202
                    obtain ⟨x210, ex210⟩ : ∃ y : Int32, y = v2_35 + 1 := ⟨_, rfl⟩
                    have tx210 : x210.toInt = v2_35.toInt + 1 := by rw [ex210]; exact z_add rfl (by decide : (1 : Int32).toInt = 1) (by omega) (by omega)
                    refine lv_iinc (v := x210) (lv' := [(2, .int x210), (3, .int r199), (1, .int v1_2), (0, .ref (ad 0))]) hx hb dX9_laysEnough_83 hl (k := 1) rfl (by rw [ex210]; rfl) (by decide) rfl (fun ls hl => ?_)
                    rw [← tx210] at heq
                    have hin2 : zpop v1_2 16 ≤ 1 ∨ EQ (zar (ct206 30)) (zar (ct 29)) v1_2 x210.toInt := Or.inr heq
                    refine lv_goto (tgt := 35) hx hb dX9_laysEnough_86 (by decide) ?_
                    exact ih35 x210 ct206 _ _ ls (by omega) (by first | assumption | omega | decide) (by first | assumption | omega | decide) (by first | assumption | omega | decide) (by first | assumption | omega | decide) hI hP hD hS (lv_sub hl [0, 2, 3] rfl)
                  · skip
                    have c203 : ¬ (y202.toInt ≤ r199.toInt) := fun q => c203 ((z_le rfl rfl).mpr q)
                    refine lv_iload_n hx hb dX9_laysEnough_72 rfl (lv_at hl 0 rfl) ?_
                    refine lv_goto (tgt := 82) hx hb dX9_laysEnough_73 (by decide) ?_
                    have k29 := hc29
                    refine va_iast hx hb hK hP hD hS 30 0 (zw_at (by omega) hs200) rfl (z_in rfl (by omega) (by omega)) dX9_laysEnough_82 (fun H locs hP hD hS => ?_)
                    have hP : zP g ((zw 32 ad ct85).set 30 (ad 30, .inl (g.2 0, 65536, .inl (upd f201 (Int32.toNatClampNeg v1_2) r199)))) H := hP
                    have hD : va_D A ((zw 32 ad ct85).set 30 (ad 30, .inl (g.2 0, 65536, .inl (upd f201 (Int32.toNatClampNeg v1_2) r199)))) := hD
                    rw [zw_set (by omega)] at hP hD
                    obtain ⟨ct212, ec213⟩ : ∃ z : Nat → va_E, z = va_up ct85 30 (.inl (g.2 0, 65536, .inl (upd f201 (Int32.toNatClampNeg v1_2) r199))) := ⟨_, rfl⟩
                    rw [← ec213] at hP hD
                    have hI : IR g ad me ct212 := by rw [ec213]; exact upR hI (by decide) (i9_30 ⟨_, rfl⟩)
                    have hc0 : ct212 0 = ct 0 := by rw [ec213]; exact (va_up_ne _ _ (by omega)).trans hc0
                    have hc29 : ct212 29 = ct 29 := by rw [ec213]; exact (va_up_ne _ _ (by omega)).trans hc29
                    have hs214 : ct212 0 = .inr (9, [.int me, .ref (ad 1), .ref (ad 2), .ref (ad 3), .ref (ad 4), .int bks164, .int lks165, .int gos166, .int shn167, .ref (ad 5), .ref (ad 6), .ref (ad 7), .ref (ad 8), .ref (ad 9), .ref (ad 10), .ref (ad 11), .int tpd168, .int pl0169, .int ln0170, .int flt171, .int opn172, .int cmy173, .int wtg174, .int nm0175, .ref (ad 12), .ref (ad 13), .ref (ad 14), .ref (ad 15), .ref (ad 16), .ref (ad 17), .ref (ad 18), .ref (ad 19), .ref (ad 20), .ref (ad 21), .ref (ad 22), .ref (ad 23), .ref (ad 24), .ref (ad 25), .ref (ad 26), .ref (ad 27), .int mst176, .int sus177, .ref (ad 28), .ref (ad 29), .ref (ad 30), .ref (ad 31), .int cut178]) := by rw [ec213, va_up_ne _ _ (by omega)]; exact hs163
                    have hs215 : ct212 30 = .inl (g.2 0, 65536, .inl (upd f201 (Int32.toNatClampNeg v1_2) r199)) := by rw [ec213]; exact va_up_self _ _ _
                    have z41_hs214 : zfi 41 (ct212 0) = (sus177 : Int32).toInt := by rw [hs214]; rfl
                    have heq : EQ (zar (ct212 30)) (zar (ct 29)) v1_2 (v2_35.toInt + 1) := by
                      rw [zar_of hs215]
                      exact EQ_new (by omega) (by omega) (by rw [← zar_of hs200, ← k29]; exact hr199_0)
                    obtain ⟨x216, ex216⟩ : ∃ y : Int32, y = v2_35 + 1 := ⟨_, rfl⟩
                    have tx216 : x216.toInt = v2_35.toInt + 1 := by rw [ex216]; exact z_add rfl (by decide : (1 : Int32).toInt = 1) (by omega) (by omega)
                    refine lv_iinc (v := x216) (lv' := [(2, .int x216), (3, .int r199), (1, .int v1_2), (0, .ref (ad 0))]) hx hb dX9_laysEnough_83 hl (k := 1) rfl (by rw [ex216]; rfl) (by decide) rfl (fun ls hl => ?_)
                    rw [← tx216] at heq
                    have hin2 : zpop v1_2 16 ≤ 1 ∨ EQ (zar (ct212 30)) (zar (ct 29)) v1_2 x216.toInt := Or.inr heq
                    refine lv_goto (tgt := 35) hx hb dX9_laysEnough_86 (by decide) ?_
                    exact ih35 x216 ct212 _ _ ls (by omega) (by first | assumption | omega | decide) (by first | assumption | omega | decide) (by first | assumption | omega | decide) (by first | assumption | omega | decide) hI hP hD hS (lv_sub hl [0, 2, 3] rfl)
          have hin : zpop v1_2 16 ≤ 1 ∨ EQ (zar (ct81 30)) (zar (ct 29)) v1_2 ((0 : Int32)).toInt := Or.inr (by
            rw [zar_of hs84]
            exact EQ_far rfl)
          exact loop35 ((128 - (0 : Int32).toInt : Int).toNat + 1) (0 : Int32) ct81 _ _ ls (by omega) (by first | assumption | omega | decide) (by first | assumption | omega | decide) (by first | assumption | omega | decide) (by first | assumption | omega | decide) hI hP hD hS (lv_sub hl [0, 1, 2] rfl)
        · skip
          have c77 : r76.toInt = 1 := (z_eq rfl (by decide : (1 : Int32).toInt = 1)).mp c77
          refine lv_iconst (v := 0) hx hb dX9_laysEnough_25 (by decide) ?_
          refine lv_goto (tgt := 32) hx hb dX9_laysEnough_26 (by decide) ?_
          obtain ⟨f218, hs217⟩ := a9_30 hI.1
          refine va_iast hx hb hK hP hD hS 30 0 (zw_at (by omega) hs217) rfl (z_in rfl (by omega) (by omega)) dX9_laysEnough_32 (fun H locs hP hD hS => ?_)
          have hP : zP g ((zw 32 ad ct37).set 30 (ad 30, .inl (g.2 0, 65536, .inl (upd f218 (Int32.toNatClampNeg v1_2) 0)))) H := hP
          have hD : va_D A ((zw 32 ad ct37).set 30 (ad 30, .inl (g.2 0, 65536, .inl (upd f218 (Int32.toNatClampNeg v1_2) 0)))) := hD
          rw [zw_set (by omega)] at hP hD
          obtain ⟨ct220, ec221⟩ : ∃ z : Nat → va_E, z = va_up ct37 30 (.inl (g.2 0, 65536, .inl (upd f218 (Int32.toNatClampNeg v1_2) 0))) := ⟨_, rfl⟩
          rw [← ec221] at hP hD
          have hI : IR g ad me ct220 := by rw [ec221]; exact upR hI (by decide) (i9_30 ⟨_, rfl⟩)
          have hc0 : ct220 0 = ct 0 := by rw [ec221]; exact (va_up_ne _ _ (by omega)).trans hc0
          have hc29 : ct220 29 = ct 29 := by rw [ec221]; exact (va_up_ne _ _ (by omega)).trans hc29
          have hs222 : ct220 0 = .inr (9, [.int me, .ref (ad 1), .ref (ad 2), .ref (ad 3), .ref (ad 4), .int bks39, .int lks40, .int gos41, .int shn42, .ref (ad 5), .ref (ad 6), .ref (ad 7), .ref (ad 8), .ref (ad 9), .ref (ad 10), .ref (ad 11), .int tpd43, .int pl044, .int ln045, .int flt46, .int opn47, .int cmy48, .int wtg49, .int nm050, .ref (ad 12), .ref (ad 13), .ref (ad 14), .ref (ad 15), .ref (ad 16), .ref (ad 17), .ref (ad 18), .ref (ad 19), .ref (ad 20), .ref (ad 21), .ref (ad 22), .ref (ad 23), .ref (ad 24), .ref (ad 25), .ref (ad 26), .ref (ad 27), .int mst51, .int sus52, .ref (ad 28), .ref (ad 29), .ref (ad 30), .ref (ad 31), .int cut53]) := by rw [ec221, va_up_ne _ _ (by omega)]; exact hs38
          have hs223 : ct220 30 = .inl (g.2 0, 65536, .inl (upd f218 (Int32.toNatClampNeg v1_2) 0)) := by rw [ec221]; exact va_up_self _ _ _
          have z41_hs222 : zfi 41 (ct220 0) = (sus52 : Int32).toInt := by rw [hs222]; rfl
          refine lv_iconst (v := 0) hx hb dX9_laysEnough_33 (by decide) ?_
          refine lv_istore_n (lv' := [(2, .int 0), (1, .int v1_2), (0, .ref (ad 0))]) hx hb dX9_laysEnough_34 rfl hl (by decide) rfl (fun ls hl => ?_)
          have loop35 : ∀ (n35 : Nat) (v2_35 : Int32) (ct224 : Nat → va_E) (H : Heap) (locs : List Loc) (ls : Array Slot), ((128 - v2_35.toInt : Int).toNat < n35) → (0 ≤ v2_35.toInt ∧ v2_35.toInt ≤ 128) → (zpop v1_2 16 ≤ 1 ∨ EQ (zar (ct224 30)) (zar (ct 29)) v1_2 v2_35.toInt) → (ct224 0 = ct 0) → (ct224 29 = ct 29) → (IR g ad me ct224) → zP g (zw 32 ad ct224) H → va_D A (zw 32 ad ct224) → va_S A s.heap H locs → lv_has ls 4 [(2, .int v2_35), (1, .int v1_2), (0, .ref (ad 0))] → W p l e (headSpec (zW yX9_laysEnough cX9_laysEnough 4 none) ({ frames := 1, cells := 0, slots := 0, locals := 25 })).room s m ([.ref (ad 0)] : List Value).toArray below meth c H locs 0 0 (MQ below (va_Qv (fun (_ : Unit) => True) (fun _ t => ∃ ct2 : Nat → va_E, zP g (zw 32 ad ct2) t.heap ∧ va_D A (zw 32 ad ct2) ∧ IR g ad me ct2 ∧ (EQL (zar (ct2 30)) (zar (ct 29)) ((2 ^ (zfi 41 (ct 0)).toNat : Nat) : Int)) ∧ (ct2 0 = ct 0) ∧ (ct2 29 = ct 29)) A) ([.ref (ad 0)] : List Value).toArray s 0 0 A) (F0 m 35 ls []) := by
            intro n35
            induction n35 with
            | zero =>
              intro v2_35 ct224 H locs ls hn35 b2_35 j0_35 hc0 hc29 hI hP hD hS hl
              exact absurd hn35 (Nat.not_lt_zero _)
            | succ n35 ih35 =>
              intro v2_35 ct224 H locs ls hn35 b2_35 j0_35 hc0 hc29 hI hP hD hS hl
              refine lv_iload_n hx hb dX9_laysEnough_35 rfl (lv_at hl 0 rfl) ?_
              refine lv_sipush (v := 128) hx hb dX9_laysEnough_36 (by decide) ?_
              refine lv_icmp_ge (tgt := 89) hx hb dX9_laysEnough_39 (by decide) (fun c225 => ?_) (fun c225 => ?_)
              · skip
                have c225 : 128 ≤ v2_35.toInt := (z_le (by decide : (128 : Int32).toInt = 128) rfl).mp c225
                have hdone : zpop v1_2 16 ≤ 1 ∨ EQ (zar (ct224 30)) (zar (ct 29)) v1_2 128 := by
                  rw [show (128 : Int) = v2_35.toInt by omega]
                  exact j0_35
                obtain ⟨x226, ex226⟩ : ∃ y : Int32, y = v1_2 + 1 := ⟨_, rfl⟩
                have tx226 : x226.toInt = v1_2.toInt + 1 := by rw [ex226]; exact z_add rfl (by decide : (1 : Int32).toInt = 1) (by omega) (by omega)
                refine lv_iinc (v := x226) (lv' := [(1, .int x226), (2, .int v2_35), (0, .ref (ad 0))]) hx hb dX9_laysEnough_89 hl (k := 1) rfl (by rw [ex226]; rfl) (by decide) rfl (fun ls hl => ?_)
                have hql : EQL (zar (ct224 30)) (zar (ct 29)) x226.toInt := Or.inr ⟨v1_2, by omega, hdone⟩
                refine lv_goto (tgt := 2) hx hb dX9_laysEnough_92 (by decide) ?_
                obtain ⟨bks228, lks229, gos230, shn231, tpd232, pl0233, ln0234, flt235, opn236, cmy237, wtg238, nm0239, mst240, sus241, cut242, h243, h244, h245, h246, h247, h248, h249, h250, h251, h252, h253, h254, h255, h256, h257, h258, h259, h260, h261, h262, hs227⟩ := a9_0 hI.1
                have z41_hs227 : zfi 41 (ct224 0) = sus241.toInt := by rw [hs227]; rfl
                exact ih2 x226 ct224 _ _ ls (by omega) (by first | assumption | omega | decide) (by first | assumption | omega | decide) (by first | assumption | omega | decide) (by first | assumption | omega | decide) (by first | assumption | omega | decide) hI hP hD hS (lv_sub hl [0, 2] rfl)
              · skip
                have c225 : ¬ (128 ≤ v2_35.toInt) := fun q => c225 ((z_le (by decide : (128 : Int32).toInt = 128) rfl).mpr q)
                refine lv_iload_n hx hb dX9_laysEnough_42 rfl (lv_at hl 1 rfl) ?_
                refine zc_i (va_runS (As := [.int v1_2]) (rest := []) ⟨hx, hb, hml, hown, hg⟩ (k_X9_bitsv l g ad me ct224 v1_2 hI) (va_cwS 1 hg (z_gS mm_1373 mm_1374 mm_117 mm_1375) rfl rfl rfl (by decide +kernel) ⟨Nat.le_of_ble_eq_true rfl, Nat.le_of_ble_eq_true rfl⟩) (zR.pre [.int v1_2] hP hK hN) rfl rfl hl.1 rfl (lv_room (Nat.le_of_ble_eq_true rfl)) dX9_laysEnough_43 ⟨Nat.le_of_ble_eq_true rfl, Nat.le_of_ble_eq_true rfl⟩) (fun r263 hr263 => ?_)
                obtain ⟨hr263_0, hr263_1, hr263_2⟩ := hr263
                have hr263_0 : 0 ≤ r263.toInt := hr263_0
                have hr263_1 : r263.toInt ≤ 16 := hr263_1
                have hr263_2 : r263.toInt = zpop v1_2 16 := hr263_2
                refine lv_iconst (v := 1) hx hb dX9_laysEnough_46 (by decide) ?_
                refine lv_icmp_le (tgt := 89) hx hb dX9_laysEnough_47 (by decide) (fun c264 => ?_) (fun c264 => ?_)
                · skip
                  have c264 : r263.toInt ≤ 1 := (z_le rfl (by decide : (1 : Int32).toInt = 1)).mp c264
                  have hdone : zpop v1_2 16 ≤ 1 ∨ EQ (zar (ct224 30)) (zar (ct 29)) v1_2 128 := Or.inl (by omega)
                  obtain ⟨x265, ex265⟩ : ∃ y : Int32, y = v1_2 + 1 := ⟨_, rfl⟩
                  have tx265 : x265.toInt = v1_2.toInt + 1 := by rw [ex265]; exact z_add rfl (by decide : (1 : Int32).toInt = 1) (by omega) (by omega)
                  refine lv_iinc (v := x265) (lv' := [(1, .int x265), (2, .int v2_35), (0, .ref (ad 0))]) hx hb dX9_laysEnough_89 hl (k := 1) rfl (by rw [ex265]; rfl) (by decide) rfl (fun ls hl => ?_)
                  have hql : EQL (zar (ct224 30)) (zar (ct 29)) x265.toInt := Or.inr ⟨v1_2, by omega, hdone⟩
                  refine lv_goto (tgt := 2) hx hb dX9_laysEnough_92 (by decide) ?_
                  obtain ⟨bks267, lks268, gos269, shn270, tpd271, pl0272, ln0273, flt274, opn275, cmy276, wtg277, nm0278, mst279, sus280, cut281, h282, h283, h284, h285, h286, h287, h288, h289, h290, h291, h292, h293, h294, h295, h296, h297, h298, h299, h300, h301, hs266⟩ := a9_0 hI.1
                  have z41_hs266 : zfi 41 (ct224 0) = sus280.toInt := by rw [hs266]; rfl
                  exact ih2 x265 ct224 _ _ ls (by omega) (by first | assumption | omega | decide) (by first | assumption | omega | decide) (by first | assumption | omega | decide) (by first | assumption | omega | decide) (by first | assumption | omega | decide) hI hP hD hS (lv_sub hl [0, 2] rfl)
                · skip
                  have c264 : ¬ (r263.toInt ≤ 1) := fun q => c264 ((z_le rfl (by decide : (1 : Int32).toInt = 1)).mpr q)
                  refine lv_aload_n hx hb dX9_laysEnough_50 rfl (lv_at hl 2 rfl) ?_
                  refine lv_iload_n hx hb dX9_laysEnough_51 rfl (lv_at hl 1 rfl) ?_
                  refine lv_iload_n hx hb dX9_laysEnough_52 rfl (lv_at hl 0 rfl) ?_
                  obtain ⟨bks303, lks304, gos305, shn306, tpd307, pl0308, ln0309, flt310, opn311, cmy312, wtg313, nm0314, mst315, sus316, cut317, h318, h319, h320, h321, h322, h323, h324, h325, h326, h327, h328, h329, h330, h331, h332, h333, h334, h335, h336, h337, hs302⟩ := a9_0 hI.1
                  have z41_hs302 : zfi 41 (ct224 0) = sus316.toInt := by rw [hs302]; rfl
                  refine zc_i (va_runV (As := [.int v1_2, .int v2_35]) (rest := []) ⟨hx, hb, hml, hown, hg⟩ (k_X9_enoughBy l g ad me ct224 v1_2 v2_35 (by first | omega | decide) (by first | omega | decide) hI) (cwV 2 hg (z_gV mm_1440 mm_1442 mm_101 mm_117 mm_1443) rfl rfl rfl (by decide +kernel) ⟨Nat.le_of_ble_eq_true rfl, Nat.le_of_ble_eq_true rfl⟩) ⟨(zR.pre [.ref (ad 0), .int v1_2, .int v2_35] hP hK hN).1, va_recv hK hP (ci := 9) (q0 := 0) rfl (zw_at (by omega) hs302), (zR.pre [.ref (ad 0), .int v1_2, .int v2_35] hP hK hN).2⟩ rfl rfl hl.1 rfl (lv_room (Nat.le_of_ble_eq_true rfl)) dX9_laysEnough_53 ⟨Nat.le_of_ble_eq_true rfl, Nat.le_of_ble_eq_true rfl⟩) (fun r338 hr338 => ?_)
                  have hr338_0 := hr338
                  have hr338_0 : r338 = zeb (zar (ct224 30)) (zar (ct224 29)) v1_2 v2_35.toInt := hr338_0
                  refine lv_istore_n (lv' := [(3, .int r338), (2, .int v2_35), (1, .int v1_2), (0, .ref (ad 0))]) hx hb dX9_laysEnough_56 rfl hl (by decide) rfl (fun ls hl => ?_)
                  refine lv_aload_n hx hb dX9_laysEnough_57 rfl (lv_at hl 3 rfl) ?_
                  refine va_get (D := g.1) (ci := 9) (v := .ref (ad 30)) (C := RX9) (T := TX9) (N := 47) hx hb hg inG9 hown hK hP 0 (zw_at (by omega) hs302) rfl 44 (by decide) (hg _ mm_1002) (fun _ h9 => h9) rfl dX9_laysEnough_58 ?_
                  refine lv_iload_n hx hb dX9_laysEnough_61 rfl (lv_at hl 2 rfl) ?_
                  refine lv_iload_n hx hb dX9_laysEnough_62 rfl (lv_at hl 0 rfl) ?_
                  refine lv_aload_n hx hb dX9_laysEnough_63 rfl (lv_at hl 3 rfl) ?_
                  refine va_get (D := g.1) (ci := 9) (v := .ref (ad 30)) (C := RX9) (T := TX9) (N := 47) hx hb hg inG9 hown hK hP 0 (zw_at (by omega) hs302) rfl 44 (by decide) (hg _ mm_1002) (fun _ h9 => h9) rfl dX9_laysEnough_64 ?_
                  refine lv_iload_n hx hb dX9_laysEnough_67 rfl (lv_at hl 2 rfl) ?_
                  obtain ⟨f340, hs339⟩ := a9_30 hI.1
                  refine va_iald hx hb hK hP 30 0 (zw_at (by omega) hs339) rfl (z_in rfl (by omega) (by omega)) dX9_laysEnough_68 ?_
                  refine lv_topi (fun y341 ey341 => ?_)
                  refine lv_icmp_ge (tgt := 76) hx hb dX9_laysEnough_69 (by decide) (fun c342 => ?_) (fun c342 => ?_)
                  · skip
                    have c342 : y341.toInt ≤ r338.toInt := (z_le rfl rfl).mp c342
                    refine lv_aload_n hx hb dX9_laysEnough_76 rfl (lv_at hl 3 rfl) ?_
                    refine va_get (D := g.1) (ci := 9) (v := .ref (ad 30)) (C := RX9) (T := TX9) (N := 47) hx hb hg inG9 hown hK hP 0 (zw_at (by omega) hs302) rfl 44 (by decide) (hg _ mm_1002) (fun _ h9 => h9) rfl dX9_laysEnough_77 ?_
                    refine lv_iload_n hx hb dX9_laysEnough_80 rfl (lv_at hl 2 rfl) ?_
                    refine va_iald hx hb hK hP 30 0 (zw_at (by omega) hs339) rfl (z_in rfl (by omega) (by omega)) dX9_laysEnough_81 ?_
                    refine lv_topi (fun y343 ey343 => ?_)
                    obtain rfl : y341 = y343 := ey341.trans ey343.symm
                    have k29 := hc29
                    refine va_iast hx hb hK hP hD hS 30 0 (zw_at (by omega) hs339) rfl (z_in rfl (by omega) (by omega)) dX9_laysEnough_82 (fun H locs hP hD hS => ?_)
                    have hP : zP g ((zw 32 ad ct224).set 30 (ad 30, .inl (g.2 0, 65536, .inl (upd f340 (Int32.toNatClampNeg v1_2) y341)))) H := hP
                    have hD : va_D A ((zw 32 ad ct224).set 30 (ad 30, .inl (g.2 0, 65536, .inl (upd f340 (Int32.toNatClampNeg v1_2) y341)))) := hD
                    rw [zw_set (by omega)] at hP hD
                    obtain ⟨ct345, ec346⟩ : ∃ z : Nat → va_E, z = va_up ct224 30 (.inl (g.2 0, 65536, .inl (upd f340 (Int32.toNatClampNeg v1_2) y341))) := ⟨_, rfl⟩
                    rw [← ec346] at hP hD
                    have hI : IR g ad me ct345 := by rw [ec346]; exact upR hI (by decide) (i9_30 ⟨_, rfl⟩)
                    have hc0 : ct345 0 = ct 0 := by rw [ec346]; exact (va_up_ne _ _ (by omega)).trans hc0
                    have hc29 : ct345 29 = ct 29 := by rw [ec346]; exact (va_up_ne _ _ (by omega)).trans hc29
                    have hs347 : ct345 0 = .inr (9, [.int me, .ref (ad 1), .ref (ad 2), .ref (ad 3), .ref (ad 4), .int bks303, .int lks304, .int gos305, .int shn306, .ref (ad 5), .ref (ad 6), .ref (ad 7), .ref (ad 8), .ref (ad 9), .ref (ad 10), .ref (ad 11), .int tpd307, .int pl0308, .int ln0309, .int flt310, .int opn311, .int cmy312, .int wtg313, .int nm0314, .ref (ad 12), .ref (ad 13), .ref (ad 14), .ref (ad 15), .ref (ad 16), .ref (ad 17), .ref (ad 18), .ref (ad 19), .ref (ad 20), .ref (ad 21), .ref (ad 22), .ref (ad 23), .ref (ad 24), .ref (ad 25), .ref (ad 26), .ref (ad 27), .int mst315, .int sus316, .ref (ad 28), .ref (ad 29), .ref (ad 30), .ref (ad 31), .int cut317]) := by rw [ec346, va_up_ne _ _ (by omega)]; exact hs302
                    have hs348 : ct345 30 = .inl (g.2 0, 65536, .inl (upd f340 (Int32.toNatClampNeg v1_2) y341)) := by rw [ec346]; exact va_up_self _ _ _
                    have z41_hs347 : zfi 41 (ct345 0) = (sus316 : Int32).toInt := by rw [hs347]; rfl
                    have heq : EQ (zar (ct345 30)) (zar (ct 29)) v1_2 (v2_35.toInt + 1) := by
                      rw [zar_of hs348]
                      exact EQ_keep (by omega) (by
                        rcases j0_35 with q | q
                        · omega
                        · rw [← zar_of hs339]; exact q) ey341
                    obtain ⟨x349, ex349⟩ : ∃ y : Int32, y = v2_35 + 1 := ⟨_, rfl⟩
                    have tx349 : x349.toInt = v2_35.toInt + 1 := by rw [ex349]; exact z_add rfl (by decide : (1 : Int32).toInt = 1) (by omega) (by omega)
                    refine lv_iinc (v := x349) (lv' := [(2, .int x349), (3, .int r338), (1, .int v1_2), (0, .ref (ad 0))]) hx hb dX9_laysEnough_83 hl (k := 1) rfl (by rw [ex349]; rfl) (by decide) rfl (fun ls hl => ?_)
                    rw [← tx349] at heq
                    have hin2 : zpop v1_2 16 ≤ 1 ∨ EQ (zar (ct345 30)) (zar (ct 29)) v1_2 x349.toInt := Or.inr heq
                    refine lv_goto (tgt := 35) hx hb dX9_laysEnough_86 (by decide) ?_
                    exact ih35 x349 ct345 _ _ ls (by omega) (by first | assumption | omega | decide) (by first | assumption | omega | decide) (by first | assumption | omega | decide) (by first | assumption | omega | decide) hI hP hD hS (lv_sub hl [0, 2, 3] rfl)
                  · skip
                    have c342 : ¬ (y341.toInt ≤ r338.toInt) := fun q => c342 ((z_le rfl rfl).mpr q)
                    refine lv_iload_n hx hb dX9_laysEnough_72 rfl (lv_at hl 0 rfl) ?_
                    refine lv_goto (tgt := 82) hx hb dX9_laysEnough_73 (by decide) ?_
                    have k29 := hc29
                    refine va_iast hx hb hK hP hD hS 30 0 (zw_at (by omega) hs339) rfl (z_in rfl (by omega) (by omega)) dX9_laysEnough_82 (fun H locs hP hD hS => ?_)
                    have hP : zP g ((zw 32 ad ct224).set 30 (ad 30, .inl (g.2 0, 65536, .inl (upd f340 (Int32.toNatClampNeg v1_2) r338)))) H := hP
                    have hD : va_D A ((zw 32 ad ct224).set 30 (ad 30, .inl (g.2 0, 65536, .inl (upd f340 (Int32.toNatClampNeg v1_2) r338)))) := hD
                    rw [zw_set (by omega)] at hP hD
                    obtain ⟨ct351, ec352⟩ : ∃ z : Nat → va_E, z = va_up ct224 30 (.inl (g.2 0, 65536, .inl (upd f340 (Int32.toNatClampNeg v1_2) r338))) := ⟨_, rfl⟩
                    rw [← ec352] at hP hD
                    have hI : IR g ad me ct351 := by rw [ec352]; exact upR hI (by decide) (i9_30 ⟨_, rfl⟩)
                    have hc0 : ct351 0 = ct 0 := by rw [ec352]; exact (va_up_ne _ _ (by omega)).trans hc0
                    have hc29 : ct351 29 = ct 29 := by rw [ec352]; exact (va_up_ne _ _ (by omega)).trans hc29
                    have hs353 : ct351 0 = .inr (9, [.int me, .ref (ad 1), .ref (ad 2), .ref (ad 3), .ref (ad 4), .int bks303, .int lks304, .int gos305, .int shn306, .ref (ad 5), .ref (ad 6), .ref (ad 7), .ref (ad 8), .ref (ad 9), .ref (ad 10), .ref (ad 11), .int tpd307, .int pl0308, .int ln0309, .int flt310, .int opn311, .int cmy312, .int wtg313, .int nm0314, .ref (ad 12), .ref (ad 13), .ref (ad 14), .ref (ad 15), .ref (ad 16), .ref (ad 17), .ref (ad 18), .ref (ad 19), .ref (ad 20), .ref (ad 21), .ref (ad 22), .ref (ad 23), .ref (ad 24), .ref (ad 25), .ref (ad 26), .ref (ad 27), .int mst315, .int sus316, .ref (ad 28), .ref (ad 29), .ref (ad 30), .ref (ad 31), .int cut317]) := by rw [ec352, va_up_ne _ _ (by omega)]; exact hs302
                    have hs354 : ct351 30 = .inl (g.2 0, 65536, .inl (upd f340 (Int32.toNatClampNeg v1_2) r338)) := by rw [ec352]; exact va_up_self _ _ _
                    have z41_hs353 : zfi 41 (ct351 0) = (sus316 : Int32).toInt := by rw [hs353]; rfl
                    have heq : EQ (zar (ct351 30)) (zar (ct 29)) v1_2 (v2_35.toInt + 1) := by
                      rw [zar_of hs354]
                      exact EQ_new (by omega) (by omega) (by rw [← zar_of hs339, ← k29]; exact hr338_0)
                    obtain ⟨x355, ex355⟩ : ∃ y : Int32, y = v2_35 + 1 := ⟨_, rfl⟩
                    have tx355 : x355.toInt = v2_35.toInt + 1 := by rw [ex355]; exact z_add rfl (by decide : (1 : Int32).toInt = 1) (by omega) (by omega)
                    refine lv_iinc (v := x355) (lv' := [(2, .int x355), (3, .int r338), (1, .int v1_2), (0, .ref (ad 0))]) hx hb dX9_laysEnough_83 hl (k := 1) rfl (by rw [ex355]; rfl) (by decide) rfl (fun ls hl => ?_)
                    rw [← tx355] at heq
                    have hin2 : zpop v1_2 16 ≤ 1 ∨ EQ (zar (ct351 30)) (zar (ct 29)) v1_2 x355.toInt := Or.inr heq
                    refine lv_goto (tgt := 35) hx hb dX9_laysEnough_86 (by decide) ?_
                    exact ih35 x355 ct351 _ _ ls (by omega) (by first | assumption | omega | decide) (by first | assumption | omega | decide) (by first | assumption | omega | decide) (by first | assumption | omega | decide) hI hP hD hS (lv_sub hl [0, 2, 3] rfl)
          have hin : zpop v1_2 16 ≤ 1 ∨ EQ (zar (ct220 30)) (zar (ct 29)) v1_2 ((0 : Int32)).toInt := Or.inl (by omega)
          exact loop35 ((128 - (0 : Int32).toInt : Int).toNat + 1) (0 : Int32) ct220 _ _ ls (by omega) (by first | assumption | omega | decide) (by first | assumption | omega | decide) (by first | assumption | omega | decide) (by first | assumption | omega | decide) hI hP hD hS (lv_sub hl [0, 1, 2] rfl)
  have hql0 : EQL (zar (ct 30)) (zar (ct 29)) ((1 : Int32)).toInt := Or.inl (by omega)
  exact loop2 ((65536 - (1 : Int32).toInt : Int).toNat + 1) (1 : Int32) ct _ _ ls (by omega) (by first | assumption | omega | decide) (by first | assumption | omega | decide) (by first | assumption | omega | decide) (by first | assumption | omega | decide) (by first | assumption | omega | decide) hI hP hD hS (lv_sub hl [0, 1] rfl)
