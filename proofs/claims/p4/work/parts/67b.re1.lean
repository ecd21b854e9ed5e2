set_option maxHeartbeats 4000000 in
set_option maxRecDepth 100000 in
theorem k_X9_isSaidOf (l : Launch) (g : zG) (sz : Nat) (ad : Nat → Nat) (me : Int32) (ct : Nat → va_E) (gg : Int32) (p0 : Int32) (i : Int32) (hl_gg : 0 ≤ gg.toInt ∧ gg.toInt ≤ 7) (hl_p0 : 0 ≤ p0.toInt ∧ p0.toInt ≤ 15) (hl_i : 0 ≤ i.toInt ∧ i.toInt ≤ 7) (hI : IR g ad me ct) : Met l yX9_isSaidOf (zW yX9_isSaidOf cX9_isSaidOf 5 (some .boolean)) ({ frames := 2, cells := 0, slots := 0, locals := 49 }) (va_Pc [.ref (ad 0), .int gg, .int p0, .int i] (zA g (zw 32 ad ct) sz)) (va_Qi (fun (r : Int32) (_ : Unit) => (r = 1) ∨ (r = 0)) (fun _ t => ∃ ct2 : Nat → va_E, zP g (zw 32 ad ct2) t.heap ∧ va_D (va_A (zw 32 ad ct) sz) (zw 32 ad ct2) ∧ IR g ad me ct2 ∧ (ct2 0 = ct 0) ∧ (ct2 5 = ct 5) ∧ (ct2 10 = ct 10) ∧ (ct2 19 = ct 19)) (va_A (zw 32 ad ct) sz)) 0 0 (va_A (zw 32 ad ct) sz) := by
  refine Met.ofW (cc := cX9_isSaidOf) (maxL := 5) (ret := (some .boolean)) (by decide) rfl ?_
  intro p e s m args below meth c s₁ B hml hv
  obtain ⟨rfl, hsz, hP, hK, hD0, hN⟩ := hv
  have hx := B.exec
  have hb := B.bytes
  have hr := B.returns
  have hg := zW.law (atoms_spec (ws := (zW yX9_isSaidOf cX9_isSaidOf 5 (some .boolean))) B.pre)
  have hown : s.vm.findClass RX9 = some m.cls := findClass_of_methodNamed B.named
  have hlocks := B.notSynchronized
  have hpe0 := hI.1.1
  subst hsz
  have hD := hD0.self (sz := s.heap.size)
  generalize hAe : va_A (zw 32 ad ct) s.heap.size = A at hD ⊢
  have hA : ∀ q : Nat, s.heap.size ≤ q → A q := fun q h => by rw [← hAe]; exact Or.inr h
  have hS : va_S A s.heap s.heap [] := va_S.rf
  have hl := lv_entry ([.ref (ad 0), .int gg, .int p0, .int i]) (n := 5) (Nat.le_of_ble_eq_true rfl)
  rw [lg_entry_eq]
  generalize (lg_sl ([.ref (ad 0), .int gg, .int p0, .int i]) ++ List.replicate (5 - (lg_sl ([.ref (ad 0), .int gg, .int p0, .int i])).length) Slot.unset).toArray = ls at hl ⊢
  have hl : lv_has ls 5 [(0, .ref (ad 0)), (1, .int gg), (2, .int p0), (3, .int i)] := hl
  have hc0 : ct 0 = ct 0 := rfl
  have hc5 : ct 5 = ct 5 := rfl
  have hc10 : ct 10 = ct 10 := rfl
  have hc19 : ct 19 = ct 19 := rfl
  refine lv_iconst (v := 0) hx hb dX9_isSaidOf_0 (by decide) ?_
  refine lv_istore (lv' := [(4, .int 0), (0, .ref (ad 0)), (1, .int gg), (2, .int p0), (3, .int i)]) hx hb dX9_isSaidOf_1 hl (by decide) rfl (fun ls hl => ?_)
  have loop3 : ∀ (n3 : Nat) (v4_3 : Int32) (ct1 : Nat → va_E) (H : Heap) (locs : List Loc) (ls : Array Slot), ((4 - v4_3.toInt : Int).toNat < n3) → (0 ≤ v4_3.toInt ∧ v4_3.toInt ≤ 4) → (ct1 0 = ct 0) → (ct1 5 = ct 5) → (ct1 10 = ct 10) → (ct1 19 = ct 19) → (IR g ad me ct1) → zP g (zw 32 ad ct1) H → va_D A (zw 32 ad ct1) → va_S A s.heap H locs → lv_has ls 5 [(4, .int v4_3), (0, .ref (ad 0)), (1, .int gg), (2, .int p0), (3, .int i)] → W p l e (headSpec (zW yX9_isSaidOf cX9_isSaidOf 5 (some .boolean)) ({ frames := 2, cells := 0, slots := 0, locals := 49 })).room s m ([.ref (ad 0), .int gg, .int p0, .int i] : List Value).toArray below meth c H locs 0 0 (MQ below (va_Qi (fun (r : Int32) (_ : Unit) => (r = 1) ∨ (r = 0)) (fun _ t => ∃ ct2 : Nat → va_E, zP g (zw 32 ad ct2) t.heap ∧ va_D A (zw 32 ad ct2) ∧ IR g ad me ct2 ∧ (ct2 0 = ct 0) ∧ (ct2 5 = ct 5) ∧ (ct2 10 = ct 10) ∧ (ct2 19 = ct 19)) A) ([.ref (ad 0), .int gg, .int p0, .int i] : List Value).toArray s 0 0 A) (F0 m 3 ls []) := by
    intro n3
    induction n3 with
    | zero =>
      intro v4_3 ct1 H locs ls hn3 b4_3 hc0 hc5 hc10 hc19 hI hP hD hS hl
      exact absurd hn3 (Nat.not_lt_zero _)
    | succ n3 ih3 =>
      intro v4_3 ct1 H locs ls hn3 b4_3 hc0 hc5 hc10 hc19 hI hP hD hS hl
      refine lv_iload hx hb dX9_isSaidOf_3 (lv_at hl 0 rfl) ?_
      refine lv_iconst (v := 4) hx hb dX9_isSaidOf_5 (by decide) ?_
      refine lv_icmp_ge (tgt := 33) hx hb dX9_isSaidOf_6 (by decide) (fun c2 => ?_) (fun c2 => ?_)
      · skip
        have c2 : 4 ≤ v4_3.toInt := (z_le (by decide : (4 : Int32).toInt = 4) rfl).mp c2
        refine lv_aload_n hx hb dX9_isSaidOf_33 rfl (lv_at hl 1 rfl) ?_
        obtain ⟨bks4, lks5, gos6, shn7, tpd8, pl09, ln010, flt11, opn12, cmy13, wtg14, nm015, mst16, sus17, cut18, h19, h20, h21, h22, h23, h24, h25, h26, h27, h28, h29, h30, h31, h32, h33, h34, h35, h36, h37, h38, hs3⟩ := a9_0 hI.1
        refine va_get (D := g.1) (ci := 9) (v := .ref (ad 18)) (C := RX9) (T := TX9) (N := 47) hx hb hg inG9 hown hK hP 0 (zw_at (by omega) hs3) rfl 30 (by decide) (hg _ mm_988) (fun _ h9 => h9) rfl dX9_isSaidOf_34 ?_
        refine lv_iconst (v := 4) hx hb dX9_isSaidOf_37 (by decide) ?_
        refine lv_iload_n hx hb dX9_isSaidOf_38 rfl (lv_at hl 3 rfl) ?_
        obtain ⟨f40, hs39⟩ := a9_18 hI.1
        refine va_iast hx hb hK hP hD hS 18 0 (zw_at (by omega) hs39) rfl (z_in (by decide : (4 : Int32).toInt = 4) (by omega) (by omega)) dX9_isSaidOf_39 (fun H locs hP hD hS => ?_)
        have hP : zP g ((zw 32 ad ct1).set 18 (ad 18, .inl (g.2 0, 7, .inl (upd f40 (Int32.toNatClampNeg 4) p0)))) H := hP
        have hD : va_D A ((zw 32 ad ct1).set 18 (ad 18, .inl (g.2 0, 7, .inl (upd f40 (Int32.toNatClampNeg 4) p0)))) := hD
        rw [zw_set (by omega)] at hP hD
        obtain ⟨ct42, ec43⟩ : ∃ z : Nat → va_E, z = va_up ct1 18 (.inl (g.2 0, 7, .inl (upd f40 (Int32.toNatClampNeg 4) p0))) := ⟨_, rfl⟩
        rw [← ec43] at hP hD
        have hI : IR g ad me ct42 := by rw [ec43]; exact upR hI (by decide) (i9_18 ⟨_, rfl⟩)
        have hc0 : ct42 0 = ct 0 := by rw [ec43]; exact (va_up_ne _ _ (by omega)).trans hc0
        have hc5 : ct42 5 = ct 5 := by rw [ec43]; exact (va_up_ne _ _ (by omega)).trans hc5
        have hc10 : ct42 10 = ct 10 := by rw [ec43]; exact (va_up_ne _ _ (by omega)).trans hc10
        have hc19 : ct42 19 = ct 19 := by rw [ec43]; exact (va_up_ne _ _ (by omega)).trans hc19
        have hs44 : ct42 0 = .inr (9, [.int me, .ref (ad 1), .ref (ad 2), .ref (ad 3), .ref (ad 4), .int bks4, .int lks5, .int gos6, .int shn7, .ref (ad 5), .ref (ad 6), .ref (ad 7), .ref (ad 8), .ref (ad 9), .ref (ad 10), .ref (ad 11), .int tpd8, .int pl09, .int ln010, .int flt11, .int opn12, .int cmy13, .int wtg14, .int nm015, .ref (ad 12), .ref (ad 13), .ref (ad 14), .ref (ad 15), .ref (ad 16), .ref (ad 17), .ref (ad 18), .ref (ad 19), .ref (ad 20), .ref (ad 21), .ref (ad 22), .ref (ad 23), .ref (ad 24), .ref (ad 25), .ref (ad 26), .ref (ad 27), .int mst16, .int sus17, .ref (ad 28), .ref (ad 29), .ref (ad 30), .ref (ad 31), .int cut18]) := by rw [ec43, va_up_ne _ _ (by omega)]; exact hs3
        have hs45 : ct42 18 = .inl (g.2 0, 7, .inl (upd f40 (Int32.toNatClampNeg 4) p0)) := by rw [ec43]; exact va_up_self _ _ _
        refine lv_aload_n hx hb dX9_isSaidOf_40 rfl (lv_at hl 1 rfl) ?_
        refine va_get (D := g.1) (ci := 9) (v := .ref (ad 18)) (C := RX9) (T := TX9) (N := 47) hx hb hg inG9 hown hK hP 0 (zw_at (by omega) hs44) rfl 30 (by decide) (hg _ mm_988) (fun _ h9 => h9) rfl dX9_isSaidOf_41 ?_
        refine lv_iconst (v := 5) hx hb dX9_isSaidOf_44 (by decide) ?_
        refine lv_aload_n hx hb dX9_isSaidOf_45 rfl (lv_at hl 1 rfl) ?_
        refine va_get (D := g.1) (ci := 9) (v := .ref (ad 4)) (C := RX9) (T := TX9) (N := 47) hx hb hg inG9 hown hK hP 0 (zw_at (by omega) hs44) rfl 4 (by decide) (hg _ mm_962) (fun _ h9 => h9) rfl dX9_isSaidOf_46 ?_
        refine lv_iload_n hx hb dX9_isSaidOf_49 rfl (lv_at hl 3 rfl) ?_
        obtain ⟨f47, hs46⟩ := a9_4 hI.1
        refine va_iald hx hb hK hP 4 0 (zw_at (by omega) hs46) rfl (z_in rfl (by omega) (by omega)) dX9_isSaidOf_50 ?_
        refine lv_topi (fun y48 ey48 => ?_)
        refine va_iast hx hb hK hP hD hS 18 0 (zw_at (by omega) hs45) rfl (z_in (by decide : (5 : Int32).toInt = 5) (by omega) (by omega)) dX9_isSaidOf_51 (fun H locs hP hD hS => ?_)
        have hP : zP g ((zw 32 ad ct42).set 18 (ad 18, .inl (g.2 0, 7, .inl (upd (upd f40 (Int32.toNatClampNeg 4) p0) (Int32.toNatClampNeg 5) y48)))) H := hP
        have hD : va_D A ((zw 32 ad ct42).set 18 (ad 18, .inl (g.2 0, 7, .inl (upd (upd f40 (Int32.toNatClampNeg 4) p0) (Int32.toNatClampNeg 5) y48)))) := hD
        rw [zw_set (by omega)] at hP hD
        obtain ⟨ct50, ec51⟩ : ∃ z : Nat → va_E, z = va_up ct42 18 (.inl (g.2 0, 7, .inl (upd (upd f40 (Int32.toNatClampNeg 4) p0) (Int32.toNatClampNeg 5) y48))) := ⟨_, rfl⟩
        rw [← ec51] at hP hD
        have hI : IR g ad me ct50 := by rw [ec51]; exact upR hI (by decide) (i9_18 ⟨_, rfl⟩)
        have hc0 : ct50 0 = ct 0 := by rw [ec51]; exact (va_up_ne _ _ (by omega)).trans hc0
        have hc5 : ct50 5 = ct 5 := by rw [ec51]; exact (va_up_ne _ _ (by omega)).trans hc5
        have hc10 : ct50 10 = ct 10 := by rw [ec51]; exact (va_up_ne _ _ (by omega)).trans hc10
        have hc19 : ct50 19 = ct 19 := by rw [ec51]; exact (va_up_ne _ _ (by omega)).trans hc19
        have hs52 : ct50 0 = .inr (9, [.int me, .ref (ad 1), .ref (ad 2), .ref (ad 3), .ref (ad 4), .int bks4, .int lks5, .int gos6, .int shn7, .ref (ad 5), .ref (ad 6), .ref (ad 7), .ref (ad 8), .ref (ad 9), .ref (ad 10), .ref (ad 11), .int tpd8, .int pl09, .int ln010, .int flt11, .int opn12, .int cmy13, .int wtg14, .int nm015, .ref (ad 12), .ref (ad 13), .ref (ad 14), .ref (ad 15), .ref (ad 16), .ref (ad 17), .ref (ad 18), .ref (ad 19), .ref (ad 20), .ref (ad 21), .ref (ad 22), .ref (ad 23), .ref (ad 24), .ref (ad 25), .ref (ad 26), .ref (ad 27), .int mst16, .int sus17, .ref (ad 28), .ref (ad 29), .ref (ad 30), .ref (ad 31), .int cut18]) := by rw [ec51, va_up_ne _ _ (by omega)]; exact hs44
        have hs53 : ct50 4 = .inl (g.2 0, 16, .inl f47) := by rw [ec51, va_up_ne _ _ (by omega)]; exact hs46
        have hs54 : ct50 18 = .inl (g.2 0, 7, .inl (upd (upd f40 (Int32.toNatClampNeg 4) p0) (Int32.toNatClampNeg 5) y48)) := by rw [ec51]; exact va_up_self _ _ _
        refine lv_aload_n hx hb dX9_isSaidOf_52 rfl (lv_at hl 1 rfl) ?_
        refine va_get (D := g.1) (ci := 9) (v := .ref (ad 18)) (C := RX9) (T := TX9) (N := 47) hx hb hg inG9 hown hK hP 0 (zw_at (by omega) hs52) rfl 30 (by decide) (hg _ mm_988) (fun _ h9 => h9) rfl dX9_isSaidOf_53 ?_
        refine lv_bipush (v := 6) hx hb dX9_isSaidOf_56 (by decide) ?_
        refine lv_iload_n hx hb dX9_isSaidOf_58 rfl (lv_at hl 4 rfl) ?_
        refine va_iast hx hb hK hP hD hS 18 0 (zw_at (by omega) hs54) rfl (z_in (by decide : (6 : Int32).toInt = 6) (by omega) (by omega)) dX9_isSaidOf_59 (fun H locs hP hD hS => ?_)
        have hP : zP g ((zw 32 ad ct50).set 18 (ad 18, .inl (g.2 0, 7, .inl (upd (upd (upd f40 (Int32.toNatClampNeg 4) p0) (Int32.toNatClampNeg 5) y48) (Int32.toNatClampNeg 6) i)))) H := hP
        have hD : va_D A ((zw 32 ad ct50).set 18 (ad 18, .inl (g.2 0, 7, .inl (upd (upd (upd f40 (Int32.toNatClampNeg 4) p0) (Int32.toNatClampNeg 5) y48) (Int32.toNatClampNeg 6) i)))) := hD
        rw [zw_set (by omega)] at hP hD
        obtain ⟨ct56, ec57⟩ : ∃ z : Nat → va_E, z = va_up ct50 18 (.inl (g.2 0, 7, .inl (upd (upd (upd f40 (Int32.toNatClampNeg 4) p0) (Int32.toNatClampNeg 5) y48) (Int32.toNatClampNeg 6) i))) := ⟨_, rfl⟩
        rw [← ec57] at hP hD
        have hI : IR g ad me ct56 := by rw [ec57]; exact upR hI (by decide) (i9_18 ⟨_, rfl⟩)
        have hc0 : ct56 0 = ct 0 := by rw [ec57]; exact (va_up_ne _ _ (by omega)).trans hc0
        have hc5 : ct56 5 = ct 5 := by rw [ec57]; exact (va_up_ne _ _ (by omega)).trans hc5
        have hc10 : ct56 10 = ct 10 := by rw [ec57]; exact (va_up_ne _ _ (by omega)).trans hc10
        have hc19 : ct56 19 = ct 19 := by rw [ec57]; exact (va_up_ne _ _ (by omega)).trans hc19
        have hs58 : ct56 0 = .inr (9, [.int me, .ref (ad 1), .ref (ad 2), .ref (ad 3), .ref (ad 4), .int bks4, .int lks5, .int gos6, .int shn7, .ref (ad 5), .ref (ad 6), .ref (ad 7), .ref (ad 8), .ref (ad 9), .ref (ad 10), .ref (ad 11), .int tpd8, .int pl09, .int ln010, .int flt11, .int opn12, .int cmy13, .int wtg14, .int nm015, .ref (ad 12), .ref (ad 13), .ref (ad 14), .ref (ad 15), .ref (ad 16), .ref (ad 17), .ref (ad 18), .ref (ad 19), .ref (ad 20), .ref (ad 21), .ref (ad 22), .ref (ad 23), .ref (ad 24), .ref (ad 25), .ref (ad 26), .ref (ad 27), .int mst16, .int sus17, .ref (ad 28), .ref (ad 29), .ref (ad 30), .ref (ad 31), .int cut18]) := by rw [ec57, va_up_ne _ _ (by omega)]; exact hs52
        have hs59 : ct56 4 = .inl (g.2 0, 16, .inl f47) := by rw [ec57, va_up_ne _ _ (by omega)]; exact hs53
        have hs60 : ct56 18 = .inl (g.2 0, 7, .inl (upd (upd (upd f40 (Int32.toNatClampNeg 4) p0) (Int32.toNatClampNeg 5) y48) (Int32.toNatClampNeg 6) i)) := by rw [ec57]; exact va_up_self _ _ _
        refine lv_aload_n hx hb dX9_isSaidOf_60 rfl (lv_at hl 1 rfl) ?_
        refine lv_bipush (v := 120) hx hb dX9_isSaidOf_61 (by decide) ?_
        refine lv_iload_n hx hb dX9_isSaidOf_63 rfl (lv_at hl 2 rfl) ?_
        refine lv_imul hx hb dX9_isSaidOf_64 ?_
        refine lv_topi (fun x61 ex61 => ?_)
        have tx61 : x61.toInt = 120 * gg.toInt := by rw [ex61]; exact z_mul (by decide : (120 : Int32).toInt = 120) rfl (by omega) (by omega)
        refine lv_aload_n hx hb dX9_isSaidOf_65 rfl (lv_at hl 1 rfl) ?_
        refine va_get (D := g.1) (ci := 9) (v := .ref (ad 15)) (C := RX9) (T := TX9) (N := 47) hx hb hg inG9 hown hK hP 0 (zw_at (by omega) hs58) rfl 27 (by decide) (hg _ mm_985) (fun _ h9 => h9) rfl dX9_isSaidOf_66 ?_
        refine lv_iload_n hx hb dX9_isSaidOf_69 rfl (lv_at hl 2 rfl) ?_
        obtain ⟨f63, hs62⟩ := a9_15 hI.1
        refine va_iald hx hb hK hP 15 0 (zw_at (by omega) hs62) rfl (z_in rfl (by omega) (by omega)) dX9_isSaidOf_70 ?_
        refine lv_topi (fun y64 ey64 => ?_)
        have hFc := zw_free hD hS hA
        refine va_calli (va_runV (As := [.int x61, .int y64]) (rest := []) ⟨hx, hb, hml, hown, hg⟩ (k_X9_comesTo l g _ ad me ct56 x61 y64 gg.toInt.toNat (by first | omega | decide) hI (by first | assumption | omega | decide) (by first | assumption | omega | decide) (by rw [zar_of hs62, ey64, z_cl (k := gg.toInt.toNat) (by omega)]) (hI.2 gg.toInt.toNat (by omega) (by omega))) (cwV 2 hg (z_gV mm_1317 mm_1319 mm_84 mm_117 mm_1320) rfl rfl rfl (by decide +kernel) ⟨Nat.le_of_ble_eq_true rfl, Nat.le_of_ble_eq_true rfl⟩) ⟨(zA.pre [.ref (ad 0), .int x61, .int y64] hP hK hD hN).1, va_recv hK hP (ci := 9) (q0 := 0) rfl (zw_at (by omega) hs58), (zA.pre [.ref (ad 0), .int x61, .int y64] hP hK hD hN).2⟩ rfl rfl hl.1 rfl (lv_room (Nat.le_of_ble_eq_true rfl)) dX9_isSaidOf_71 ⟨Nat.le_of_ble_eq_true rfl, Nat.le_of_ble_eq_true rfl⟩) hS (fun q _ h => hFc q h) hFc (fun r65 _ t H1 locs ht hvm hr65 hB hz1 hk1 hS => ?_)
        obtain ⟨ct66, hP1, hD1, hI, hk67, hk68, hk69, hk70, hk71, hk72⟩ := hB
        rw [ht] at hP1
        have hD := hD1.weaken (fun _ _ _ h => hFc _ h)
        generalize H1 = H at hP1 hS ⊢
        have hP := hP1
        refine W.widen (k := 0) (n := 0) (Nat.le_refl _) (Nat.le_refl _) ?_
        have hc0 : ct66 0 = ct 0 := hk67.trans hc0
        have hc5 : ct66 5 = ct 5 := hk68.trans hc5
        have hc10 : ct66 10 = ct 10 := hk69.trans hc10
        have hc19 : ct66 19 = ct 19 := hk72.trans hc19
        have hs73 : ct66 0 = .inr (9, [.int me, .ref (ad 1), .ref (ad 2), .ref (ad 3), .ref (ad 4), .int bks4, .int lks5, .int gos6, .int shn7, .ref (ad 5), .ref (ad 6), .ref (ad 7), .ref (ad 8), .ref (ad 9), .ref (ad 10), .ref (ad 11), .int tpd8, .int pl09, .int ln010, .int flt11, .int opn12, .int cmy13, .int wtg14, .int nm015, .ref (ad 12), .ref (ad 13), .ref (ad 14), .ref (ad 15), .ref (ad 16), .ref (ad 17), .ref (ad 18), .ref (ad 19), .ref (ad 20), .ref (ad 21), .ref (ad 22), .ref (ad 23), .ref (ad 24), .ref (ad 25), .ref (ad 26), .ref (ad 27), .int mst16, .int sus17, .ref (ad 28), .ref (ad 29), .ref (ad 30), .ref (ad 31), .int cut18]) := hk67.trans hs58
        have hs74 : ct66 18 = .inl (g.2 0, 7, .inl (upd (upd (upd f40 (Int32.toNatClampNeg 4) p0) (Int32.toNatClampNeg 5) y48) (Int32.toNatClampNeg 6) i)) := hk71.trans hs60
        refine lv_iconst (v := 1) hx hb dX9_isSaidOf_74 (by decide) ?_
        refine lv_icmp_ne (tgt := 82) hx hb dX9_isSaidOf_75 (by decide) (fun c75 => ?_) (fun c75 => ?_)
        · skip
          have c75 : ¬ (r65.toInt = 1) := fun q => c75 ((z_eq rfl (by decide : (1 : Int32).toInt = 1)).mpr q)
          refine lv_iconst (v := 0) hx hb dX9_isSaidOf_82 (by decide) ?_
          have q76 : (0 : Int32).toInt = 0 := by decide
          exact W.zret (v := 0) hx hb hr rfl (fun t ht hW => ⟨⟨0, (), rfl, by first | exact Or.inl ⟨rfl, by omega⟩ | exact Or.inr ⟨rfl, by omega⟩ | exact Or.inl rfl | exact Or.inr rfl | exact Or.inl ⟨rfl, by omega, by omega⟩ | exact (z_01 (by omega) (by omega)).symm, ct66, by rw [ht]; exact hP, hD, hI, (by first | assumption | omega), (by first | assumption | omega), (by first | assumption | omega), (by first | assumption | omega)⟩, hS.F ht⟩) hS.2.2 dX9_isSaidOf_83
        · skip
          have c75 : r65.toInt = 1 := (z_eq rfl (by decide : (1 : Int32).toInt = 1)).mp c75
          refine lv_iconst (v := 1) hx hb dX9_isSaidOf_78 (by decide) ?_
          refine lv_goto (tgt := 83) hx hb dX9_isSaidOf_79 (by decide) ?_
          have q77 : (1 : Int32).toInt = 1 := by decide
          exact W.zret (v := 1) hx hb hr rfl (fun t ht hW => ⟨⟨1, (), rfl, by first | exact Or.inl ⟨rfl, by omega⟩ | exact Or.inr ⟨rfl, by omega⟩ | exact Or.inl rfl | exact Or.inr rfl | exact Or.inl ⟨rfl, by omega, by omega⟩ | exact (z_01 (by omega) (by omega)).symm, ct66, by rw [ht]; exact hP, hD, hI, (by first | assumption | omega), (by first | assumption | omega), (by first | assumption | omega), (by first | assumption | omega)⟩, hS.F ht⟩) hS.2.2 dX9_isSaidOf_83
      · skip
        have c2 : ¬ (4 ≤ v4_3.toInt) := fun q => c2 ((z_le (by decide : (4 : Int32).toInt = 4) rfl).mpr q)
        refine lv_aload_n hx hb dX9_isSaidOf_9 rfl (lv_at hl 1 rfl) ?_
        obtain ⟨bks79, lks80, gos81, shn82, tpd83, pl084, ln085, flt86, opn87, cmy88, wtg89, nm090, mst91, sus92, cut93, h94, h95, h96, h97, h98, h99, h100, h101, h102, h103, h104, h105, h106, h107, h108, h109, h110, h111, h112, h113, hs78⟩ := a9_0 hI.1
        refine va_get (D := g.1) (ci := 9) (v := .ref (ad 18)) (C := RX9) (T := TX9) (N := 47) hx hb hg inG9 hown hK hP 0 (zw_at (by omega) hs78) rfl 30 (by decide) (hg _ mm_988) (fun _ h9 => h9) rfl dX9_isSaidOf_10 ?_
        refine lv_iload hx hb dX9_isSaidOf_13 (lv_at hl 0 rfl) ?_
        refine lv_aload_n hx hb dX9_isSaidOf_15 rfl (lv_at hl 1 rfl) ?_
        refine va_get (D := g.1) (ci := 9) (v := .ref (ad 3)) (C := RX9) (T := TX9) (N := 47) hx hb hg inG9 hown hK hP 0 (zw_at (by omega) hs78) rfl 3 (by decide) (hg _ mm_961) (fun _ h9 => h9) rfl dX9_isSaidOf_16 ?_
        refine lv_iconst (v := 4) hx hb dX9_isSaidOf_19 (by decide) ?_
        refine lv_iload_n hx hb dX9_isSaidOf_20 rfl (lv_at hl 3 rfl) ?_
        refine lv_imul hx hb dX9_isSaidOf_21 ?_
        refine lv_topi (fun x114 ex114 => ?_)
        have tx114 : x114.toInt = 4 * p0.toInt := by rw [ex114]; exact z_mul (by decide : (4 : Int32).toInt = 4) rfl (by omega) (by omega)
        refine lv_iload hx hb dX9_isSaidOf_22 (lv_at hl 0 rfl) ?_
        refine lv_iadd hx hb dX9_isSaidOf_24 ?_
        refine lv_topi (fun x115 ex115 => ?_)
        have tx115 : x115.toInt = x114.toInt + v4_3.toInt := by rw [ex115]; exact z_add rfl rfl (by omega) (by omega)
        obtain ⟨f117, hp118, hs116⟩ := a9_3 hI.1
        refine va_iald hx hb hK hP 3 0 (zw_at (by omega) hs116) rfl (z_in rfl (by omega) (by omega)) dX9_isSaidOf_25 ?_
        refine lv_topi (fun y119 ey119 => ?_)
        have hy119 := hp118 _ (z_clt (x := x115) rfl (by omega) (by omega))
        rw [← ey119] at hy119
        have hy119 : 0 ≤ y119.toInt ∧ y119.toInt ≤ 15 := hy119
        obtain ⟨f121, hs120⟩ := a9_18 hI.1
        refine va_iast hx hb hK hP hD hS 18 0 (zw_at (by omega) hs120) rfl (z_in rfl (by omega) (by omega)) dX9_isSaidOf_26 (fun H locs hP hD hS => ?_)
        have hP : zP g ((zw 32 ad ct1).set 18 (ad 18, .inl (g.2 0, 7, .inl (upd f121 (Int32.toNatClampNeg v4_3) y119)))) H := hP
        have hD : va_D A ((zw 32 ad ct1).set 18 (ad 18, .inl (g.2 0, 7, .inl (upd f121 (Int32.toNatClampNeg v4_3) y119)))) := hD
        rw [zw_set (by omega)] at hP hD
        obtain ⟨ct123, ec124⟩ : ∃ z : Nat → va_E, z = va_up ct1 18 (.inl (g.2 0, 7, .inl (upd f121 (Int32.toNatClampNeg v4_3) y119))) := ⟨_, rfl⟩
        rw [← ec124] at hP hD
        have hI : IR g ad me ct123 := by rw [ec124]; exact upR hI (by decide) (i9_18 ⟨_, rfl⟩)
        have hc0 : ct123 0 = ct 0 := by rw [ec124]; exact (va_up_ne _ _ (by omega)).trans hc0
        have hc5 : ct123 5 = ct 5 := by rw [ec124]; exact (va_up_ne _ _ (by omega)).trans hc5
        have hc10 : ct123 10 = ct 10 := by rw [ec124]; exact (va_up_ne _ _ (by omega)).trans hc10
        have hc19 : ct123 19 = ct 19 := by rw [ec124]; exact (va_up_ne _ _ (by omega)).trans hc19
        have hs125 : ct123 0 = .inr (9, [.int me, .ref (ad 1), .ref (ad 2), .ref (ad 3), .ref (ad 4), .int bks79, .int lks80, .int gos81, .int shn82, .ref (ad 5), .ref (ad 6), .ref (ad 7), .ref (ad 8), .ref (ad 9), .ref (ad 10), .ref (ad 11), .int tpd83, .int pl084, .int ln085, .int flt86, .int opn87, .int cmy88, .int wtg89, .int nm090, .ref (ad 12), .ref (ad 13), .ref (ad 14), .ref (ad 15), .ref (ad 16), .ref (ad 17), .ref (ad 18), .ref (ad 19), .ref (ad 20), .ref (ad 21), .ref (ad 22), .ref (ad 23), .ref (ad 24), .ref (ad 25), .ref (ad 26), .ref (ad 27), .int mst91, .int sus92, .ref (ad 28), .ref (ad 29), .ref (ad 30), .ref (ad 31), .int cut93]) := by rw [ec124, va_up_ne _ _ (by omega)]; exact hs78
        have hs126 : ct123 3 = .inl (g.2 0, 64, .inl f117) := by rw [ec124, va_up_ne _ _ (by omega)]; exact hs116
        have hs127 : ct123 18 = .inl (g.2 0, 7, .inl (upd f121 (Int32.toNatClampNeg v4_3) y119)) := by rw [ec124]; exact va_up_self _ _ _
        obtain ⟨x128, ex128⟩ : ∃ y : Int32, y = v4_3 + 1 := ⟨_, rfl⟩
        have tx128 : x128.toInt = v4_3.toInt + 1 := by rw [ex128]; exact z_add rfl (by decide : (1 : Int32).toInt = 1) (by omega) (by omega)
        refine lv_iinc (v := x128) (lv' := [(4, .int x128), (0, .ref (ad 0)), (1, .int gg), (2, .int p0), (3, .int i)]) hx hb dX9_isSaidOf_27 hl (k := 0) rfl (by rw [ex128]; rfl) (by decide) rfl (fun ls hl => ?_)
        refine lv_goto (tgt := 3) hx hb dX9_isSaidOf_30 (by decide) ?_
        exact ih3 x128 ct123 _ _ ls (by omega) (by first | assumption | omega | decide) (by first | assumption | omega | decide) (by first | assumption | omega | decide) (by first | assumption | omega | decide) (by first | assumption | omega | decide) hI hP hD hS (lv_sub hl [0, 1, 2, 3, 4] rfl)
  exact loop3 ((4 - (0 : Int32).toInt : Int).toNat + 1) (0 : Int32) ct _ _ ls (by omega) (by first | assumption | omega | decide) (by first | assumption | omega | decide) (by first | assumption | omega | decide) (by first | assumption | omega | decide) (by first | assumption | omega | decide) hI hP hD hS (lv_sub hl [0, 1, 2, 3, 4] rfl)

set_option maxHeartbeats 4000000 in
set_option maxRecDepth 100000 in
theorem k_X9_fitsAlone (l : Launch) (g : zG) (sz : Nat) (ad : Nat → Nat) (me : Int32) (ct : Nat → va_E) (li : Int32) (kn : Int32) (hl_li : 0 ≤ li.toInt ∧ li.toInt ≤ 31) (hl_kn : 0 ≤ kn.toInt ∧ kn.toInt ≤ 255) (hI : IR g ad me ct) : Met l yX9_fitsAlone (zW yX9_fitsAlone cX9_fitsAlone 7 (some .int)) ({ frames := 3, cells := 0, slots := 0, locals := 73 }) (va_Pc [.ref (ad 0), .int li, .int kn] (zA g (zw 32 ad ct) sz)) (va_Qi (fun (r : Int32) (_ : Unit) => ((0 ≤ r.toInt) ∧ (r.toInt ≤ 65535))) (fun _ t => ∃ ct2 : Nat → va_E, zP g (zw 32 ad ct2) t.heap ∧ va_D (va_A (zw 32 ad ct) sz) (zw 32 ad ct2) ∧ IR g ad me ct2 ∧ (ct2 0 = ct 0) ∧ (ct2 5 = ct 5) ∧ (ct2 10 = ct 10) ∧ (ct2 19 = ct 19)) (va_A (zw 32 ad ct) sz)) 0 0 (va_A (zw 32 ad ct) sz) := by
  refine Met.ofW (cc := cX9_fitsAlone) (maxL := 7) (ret := (some .int)) (by decide) rfl ?_
  intro p e s m args below meth c s₁ B hml hv
  obtain ⟨rfl, hsz, hP, hK, hD0, hN⟩ := hv
  have hx := B.exec
  have hb := B.bytes
  have hr := B.returns
  have hg := zW.law (atoms_spec (ws := (zW yX9_fitsAlone cX9_fitsAlone 7 (some .int))) B.pre)
  have hown : s.vm.findClass RX9 = some m.cls := findClass_of_methodNamed B.named
  have hlocks := B.notSynchronized
  have hpe0 := hI.1.1
  subst hsz
  have hD := hD0.self (sz := s.heap.size)
  generalize hAe : va_A (zw 32 ad ct) s.heap.size = A at hD ⊢
  have hA : ∀ q : Nat, s.heap.size ≤ q → A q := fun q h => by rw [← hAe]; exact Or.inr h
  have hS : va_S A s.heap s.heap [] := va_S.rf
  have hl := lv_entry ([.ref (ad 0), .int li, .int kn]) (n := 7) (Nat.le_of_ble_eq_true rfl)
  rw [lg_entry_eq]
  generalize (lg_sl ([.ref (ad 0), .int li, .int kn]) ++ List.replicate (7 - (lg_sl ([.ref (ad 0), .int li, .int kn])).length) Slot.unset).toArray = ls at hl ⊢
  have hl : lv_has ls 7 [(0, .ref (ad 0)), (1, .int li), (2, .int kn)] := hl
  have hc0 : ct 0 = ct 0 := rfl
  have hc5 : ct 5 = ct 5 := rfl
  have hc10 : ct 10 = ct 10 := rfl
  have hc19 : ct 19 = ct 19 := rfl
  refine lv_iconst (v := 0) hx hb dX9_fitsAlone_0 (by decide) ?_
  refine lv_istore_n (lv' := [(3, .int 0), (0, .ref (ad 0)), (1, .int li), (2, .int kn)]) hx hb dX9_fitsAlone_1 rfl hl (by decide) rfl (fun ls hl => ?_)
  refine lv_iconst (v := 0) hx hb dX9_fitsAlone_2 (by decide) ?_
  refine lv_istore (lv' := [(4, .int 0), (3, .int 0), (0, .ref (ad 0)), (1, .int li), (2, .int kn)]) hx hb dX9_fitsAlone_3 hl (by decide) rfl (fun ls hl => ?_)
  have loop5 : ∀ (n5 : Nat) (v4_5 : Int32) (v3_5 : Int32) (ct1 : Nat → va_E) (H : Heap) (locs : List Loc) (ls : Array Slot), ((16 - v4_5.toInt : Int).toNat < n5) → (0 ≤ v4_5.toInt ∧ v4_5.toInt ≤ 16) → (0 ≤ v3_5.toInt ∧ v3_5.toInt ≤ 65535) → (ct1 0 = ct 0) → (ct1 5 = ct 5) → (ct1 10 = ct 10) → (ct1 19 = ct 19) → (IR g ad me ct1) → zP g (zw 32 ad ct1) H → va_D A (zw 32 ad ct1) → va_S A s.heap H locs → lv_has ls 7 [(4, .int v4_5), (3, .int v3_5), (0, .ref (ad 0)), (1, .int li), (2, .int kn)] → W p l e (headSpec (zW yX9_fitsAlone cX9_fitsAlone 7 (some .int)) ({ frames := 3, cells := 0, slots := 0, locals := 73 })).room s m ([.ref (ad 0), .int li, .int kn] : List Value).toArray below meth c H locs 0 0 (MQ below (va_Qi (fun (r : Int32) (_ : Unit) => ((0 ≤ r.toInt) ∧ (r.toInt ≤ 65535))) (fun _ t => ∃ ct2 : Nat → va_E, zP g (zw 32 ad ct2) t.heap ∧ va_D A (zw 32 ad ct2) ∧ IR g ad me ct2 ∧ (ct2 0 = ct 0) ∧ (ct2 5 = ct 5) ∧ (ct2 10 = ct 10) ∧ (ct2 19 = ct 19)) A) ([.ref (ad 0), .int li, .int kn] : List Value).toArray s 0 0 A) (F0 m 5 ls []) := by
    intro n5
    induction n5 with
    | zero =>
      intro v4_5 v3_5 ct1 H locs ls hn5 b4_5 b3_5 hc0 hc5 hc10 hc19 hI hP hD hS hl
      exact absurd hn5 (Nat.not_lt_zero _)
    | succ n5 ih5 =>
      intro v4_5 v3_5 ct1 H locs ls hn5 b4_5 b3_5 hc0 hc5 hc10 hc19 hI hP hD hS hl
      refine lv_iload hx hb dX9_fitsAlone_5 (lv_at hl 0 rfl) ?_
      refine lv_aload_n hx hb dX9_fitsAlone_7 rfl (lv_at hl 2 rfl) ?_
      obtain ⟨bks3, lks4, gos5, shn6, tpd7, pl08, ln09, flt10, opn11, cmy12, wtg13, nm014, mst15, sus16, cut17, h18, h19, h20, h21, h22, h23, h24, h25, h26, h27, h28, h29, h30, h31, h32, h33, h34, h35, h36, h37, hs2⟩ := a9_0 hI.1
      refine va_get (D := g.1) (ci := 9) (v := .int me) (C := RX9) (T := TX9) (N := 47) hx hb hg inG9 hown hK hP 0 (zw_at (by omega) hs2) rfl 0 (by decide) (hg _ mm_958) (fun _ h9 => h9) rfl dX9_fitsAlone_8 ?_
      refine lv_icmp_ge (tgt := 106) hx hb dX9_fitsAlone_11 (by decide) (fun c38 => ?_) (fun c38 => ?_)
      · skip
        have c38 : me.toInt ≤ v4_5.toInt := (z_le rfl rfl).mp c38
        refine lv_iload_n hx hb dX9_fitsAlone_106 rfl (lv_at hl 1 rfl) ?_
        exact W.iret (v := v3_5) hx hb hr (fun t ht hW => ⟨⟨v3_5, (), rfl, ⟨by first | omega | decide, by first | omega | decide⟩, ct1, by rw [ht]; exact hP, hD, hI, (by first | assumption | omega), (by first | assumption | omega), (by first | assumption | omega), (by first | assumption | omega)⟩, hS.F ht⟩) hS.2.2 dX9_fitsAlone_107
      · skip
        have c38 : ¬ (me.toInt ≤ v4_5.toInt) := fun q => c38 ((z_le rfl rfl).mpr q)
        refine lv_aload_n hx hb dX9_fitsAlone_14 rfl (lv_at hl 2 rfl) ?_
        refine lv_iload_n hx hb dX9_fitsAlone_15 rfl (lv_at hl 3 rfl) ?_
        refine lv_iload hx hb dX9_fitsAlone_16 (lv_at hl 0 rfl) ?_
        refine zc_i (va_runV (As := [.int li, .int v4_5]) (rest := []) ⟨hx, hb, hml, hown, hg⟩ (k_X9_isAlone l g ad me ct1 li v4_5 (by first | omega | decide) (by first | omega | decide) hI) (cwV 2 hg (z_gV mm_1309 mm_1311 mm_82 mm_117 mm_1312) rfl rfl rfl (by decide +kernel) ⟨Nat.le_of_ble_eq_true rfl, Nat.le_of_ble_eq_true rfl⟩) ⟨(zR.pre [.ref (ad 0), .int li, .int v4_5] hP hK hN).1, va_recv hK hP (ci := 9) (q0 := 0) rfl (zw_at (by omega) hs2), (zR.pre [.ref (ad 0), .int li, .int v4_5] hP hK hN).2⟩ rfl rfl hl.1 rfl (lv_room (Nat.le_of_ble_eq_true rfl)) dX9_fitsAlone_18 ⟨Nat.le_of_ble_eq_true rfl, Nat.le_of_ble_eq_true rfl⟩) (fun r39 hr39 => ?_)
        rcases hr39 with hr39 | hr39
        · skip
          obtain rfl := hr39
          refine lv_istore (lv' := [(5, .int 1), (4, .int v4_5), (3, .int v3_5), (0, .ref (ad 0)), (1, .int li), (2, .int kn)]) hx hb dX9_fitsAlone_21 hl (by decide) rfl (fun ls hl => ?_)
          refine lv_iconst (v := 0) hx hb dX9_fitsAlone_23 (by decide) ?_
          refine lv_istore (lv' := [(6, .int 0), (5, .int 1), (4, .int v4_5), (3, .int v3_5), (0, .ref (ad 0)), (1, .int li), (2, .int kn)]) hx hb dX9_fitsAlone_24 hl (by decide) rfl (fun ls hl => ?_)
          have loop26 : ∀ (n26 : Nat) (v6_26 : Int32) (v5_26 : Int32) (ct40 : Nat → va_E) (H : Heap) (locs : List Loc) (ls : Array Slot), ((8 - v6_26.toInt : Int).toNat < n26) → (0 ≤ v6_26.toInt ∧ v6_26.toInt ≤ 8) → (0 ≤ v5_26.toInt ∧ v5_26.toInt ≤ 1) → (ct40 0 = ct 0) → (ct40 5 = ct 5) → (ct40 10 = ct 10) → (ct40 19 = ct 19) → (IR g ad me ct40) → zP g (zw 32 ad ct40) H → va_D A (zw 32 ad ct40) → va_S A s.heap H locs → lv_has ls 7 [(6, .int v6_26), (5, .int v5_26), (4, .int v4_5), (3, .int v3_5), (0, .ref (ad 0)), (1, .int li), (2, .int kn)] → W p l e (headSpec (zW yX9_fitsAlone cX9_fitsAlone 7 (some .int)) ({ frames := 3, cells := 0, slots := 0, locals := 73 })).room s m ([.ref (ad 0), .int li, .int kn] : List Value).toArray below meth c H locs 0 0 (MQ below (va_Qi (fun (r : Int32) (_ : Unit) => ((0 ≤ r.toInt) ∧ (r.toInt ≤ 65535))) (fun _ t => ∃ ct2 : Nat → va_E, zP g (zw 32 ad ct2) t.heap ∧ va_D A (zw 32 ad ct2) ∧ IR g ad me ct2 ∧ (ct2 0 = ct 0) ∧ (ct2 5 = ct 5) ∧ (ct2 10 = ct 10) ∧ (ct2 19 = ct 19)) A) ([.ref (ad 0), .int li, .int kn] : List Value).toArray s 0 0 A) (F0 m 26 ls []) := by
            intro n26
            induction n26 with
            | zero =>
              intro v6_26 v5_26 ct40 H locs ls hn26 b6_26 b5_26 hc0 hc5 hc10 hc19 hI hP hD hS hl
              exact absurd hn26 (Nat.not_lt_zero _)
            | succ n26 ih26 =>
              intro v6_26 v5_26 ct40 H locs ls hn26 b6_26 b5_26 hc0 hc5 hc10 hc19 hI hP hD hS hl
              refine lv_iload hx hb dX9_fitsAlone_26 (lv_at hl 0 rfl) ?_
              refine lv_bipush (v := 8) hx hb dX9_fitsAlone_28 (by decide) ?_
              refine lv_icmp_ge (tgt := 84) hx hb dX9_fitsAlone_30 (by decide) (fun c41 => ?_) (fun c41 => ?_)
              · skip
                have c41 : 8 ≤ v6_26.toInt := (z_le (by decide : (8 : Int32).toInt = 8) rfl).mp c41
                refine lv_iload hx hb dX9_fitsAlone_84 (lv_at hl 1 rfl) ?_
                refine lv_if_eq (tgt := 98) hx hb dX9_fitsAlone_86 (by decide) (fun c42 => ?_) (fun c42 => ?_)
                · skip
                  have c42 : v5_26.toInt = 0 := (z_eq rfl (by decide : (0 : Int32).toInt = 0)).mp c42
                  refine lv_iload_n hx hb dX9_fitsAlone_98 rfl (lv_at hl 3 rfl) ?_
                  refine lv_istore_n (lv' := [(3, .int v3_5), (6, .int v6_26), (5, .int v5_26), (4, .int v4_5), (0, .ref (ad 0)), (1, .int li), (2, .int kn)]) hx hb dX9_fitsAlone_99 rfl hl (by decide) rfl (fun ls hl => ?_)
                  obtain ⟨x43, ex43⟩ : ∃ y : Int32, y = v4_5 + 1 := ⟨_, rfl⟩
                  have tx43 : x43.toInt = v4_5.toInt + 1 := by rw [ex43]; exact z_add rfl (by decide : (1 : Int32).toInt = 1) (by omega) (by omega)
                  refine lv_iinc (v := x43) (lv' := [(4, .int x43), (3, .int v3_5), (6, .int v6_26), (5, .int v5_26), (0, .ref (ad 0)), (1, .int li), (2, .int kn)]) hx hb dX9_fitsAlone_100 hl (k := 3) rfl (by rw [ex43]; rfl) (by decide) rfl (fun ls hl => ?_)
                  refine lv_goto (tgt := 5) hx hb dX9_fitsAlone_103 (by decide) ?_
                  exact ih5 x43 v3_5 ct40 _ _ ls (by omega) (by first | assumption | omega | decide) (by first | assumption | omega | decide) (by first | assumption | omega | decide) (by first | assumption | omega | decide) (by first | assumption | omega | decide) (by first | assumption | omega | decide) hI hP hD hS (lv_sub hl [0, 1, 4, 5, 6] rfl)
                · skip
                  have c42 : ¬ (v5_26.toInt = 0) := fun q => c42 ((z_eq rfl (by decide : (0 : Int32).toInt = 0)).mpr q)
                  refine lv_iload_n hx hb dX9_fitsAlone_89 rfl (lv_at hl 3 rfl) ?_
                  refine lv_iconst (v := 1) hx hb dX9_fitsAlone_90 (by decide) ?_
                  refine lv_iload hx hb dX9_fitsAlone_91 (lv_at hl 2 rfl) ?_
                  refine lv_ishl hx hb dX9_fitsAlone_93 ?_
                  refine lv_topi (fun x44 ex44 => ?_)
                  have tx44 := z_shl1 (y := v4_5) rfl (by omega) (k := 15) (by decide) (by omega)
                  rw [← ex44] at tx44
                  refine lv_ior hx hb dX9_fitsAlone_94 ?_
                  refine lv_topi (fun x45 ex45 => ?_)
                  have tx45 := z_or (x := v3_5) (y := x44) rfl rfl (k := 16) (N := 65536) (by decide) (by decide) (by omega) (by omega) (by omega) (by omega)
                  rw [← ex45] at tx45
                  refine lv_goto (tgt := 99) hx hb dX9_fitsAlone_95 (by decide) ?_
                  refine lv_istore_n (lv' := [(3, .int x45), (6, .int v6_26), (5, .int v5_26), (4, .int v4_5), (0, .ref (ad 0)), (1, .int li), (2, .int kn)]) hx hb dX9_fitsAlone_99 rfl hl (by decide) rfl (fun ls hl => ?_)
                  obtain ⟨x46, ex46⟩ : ∃ y : Int32, y = v4_5 + 1 := ⟨_, rfl⟩
                  have tx46 : x46.toInt = v4_5.toInt + 1 := by rw [ex46]; exact z_add rfl (by decide : (1 : Int32).toInt = 1) (by omega) (by omega)
                  refine lv_iinc (v := x46) (lv' := [(4, .int x46), (3, .int x45), (6, .int v6_26), (5, .int v5_26), (0, .ref (ad 0)), (1, .int li), (2, .int kn)]) hx hb dX9_fitsAlone_100 hl (k := 3) rfl (by rw [ex46]; rfl) (by decide) rfl (fun ls hl => ?_)
                  refine lv_goto (tgt := 5) hx hb dX9_fitsAlone_103 (by decide) ?_
                  exact ih5 x46 x45 ct40 _ _ ls (by omega) (by first | assumption | omega | decide) (by first | assumption | omega | decide) (by first | assumption | omega | decide) (by first | assumption | omega | decide) (by first | assumption | omega | decide) (by first | assumption | omega | decide) hI hP hD hS (lv_sub hl [0, 1, 4, 5, 6] rfl)
              · skip
                have c41 : ¬ (8 ≤ v6_26.toInt) := fun q => c41 ((z_le (by decide : (8 : Int32).toInt = 8) rfl).mpr q)
                refine lv_iload hx hb dX9_fitsAlone_33 (lv_at hl 1 rfl) ?_
                refine lv_if_eq (tgt := 84) hx hb dX9_fitsAlone_35 (by decide) (fun c47 => ?_) (fun c47 => ?_)
                · skip
                  have c47 : v5_26.toInt = 0 := (z_eq rfl (by decide : (0 : Int32).toInt = 0)).mp c47
                  refine lv_iload hx hb dX9_fitsAlone_84 (lv_at hl 1 rfl) ?_
                  refine lv_if_eq (tgt := 98) hx hb dX9_fitsAlone_86 (by decide) (fun c48 => ?_) (fun c48 => ?_)
                  · skip
                    have c48 : v5_26.toInt = 0 := (z_eq rfl (by decide : (0 : Int32).toInt = 0)).mp c48
                    refine lv_iload_n hx hb dX9_fitsAlone_98 rfl (lv_at hl 3 rfl) ?_
                    refine lv_istore_n (lv' := [(3, .int v3_5), (6, .int v6_26), (5, .int v5_26), (4, .int v4_5), (0, .ref (ad 0)), (1, .int li), (2, .int kn)]) hx hb dX9_fitsAlone_99 rfl hl (by decide) rfl (fun ls hl => ?_)
                    obtain ⟨x49, ex49⟩ : ∃ y : Int32, y = v4_5 + 1 := ⟨_, rfl⟩
                    have tx49 : x49.toInt = v4_5.toInt + 1 := by rw [ex49]; exact z_add rfl (by decide : (1 : Int32).toInt = 1) (by omega) (by omega)
                    refine lv_iinc (v := x49) (lv' := [(4, .int x49), (3, .int v3_5), (6, .int v6_26), (5, .int v5_26), (0, .ref (ad 0)), (1, .int li), (2, .int kn)]) hx hb dX9_fitsAlone_100 hl (k := 3) rfl (by rw [ex49]; rfl) (by decide) rfl (fun ls hl => ?_)
                    refine lv_goto (tgt := 5) hx hb dX9_fitsAlone_103 (by decide) ?_
                    exact ih5 x49 v3_5 ct40 _ _ ls (by omega) (by first | assumption | omega | decide) (by first | assumption | omega | decide) (by first | assumption | omega | decide) (by first | assumption | omega | decide) (by first | assumption | omega | decide) (by first | assumption | omega | decide) hI hP hD hS (lv_sub hl [0, 1, 4, 5, 6] rfl)
                  · skip
                    have c48 : ¬ (v5_26.toInt = 0) := fun q => c48 ((z_eq rfl (by decide : (0 : Int32).toInt = 0)).mpr q)
                    refine lv_iload_n hx hb dX9_fitsAlone_89 rfl (lv_at hl 3 rfl) ?_
                    refine lv_iconst (v := 1) hx hb dX9_fitsAlone_90 (by decide) ?_
                    refine lv_iload hx hb dX9_fitsAlone_91 (lv_at hl 2 rfl) ?_
                    refine lv_ishl hx hb dX9_fitsAlone_93 ?_
                    refine lv_topi (fun x50 ex50 => ?_)
                    have tx50 := z_shl1 (y := v4_5) rfl (by omega) (k := 15) (by decide) (by omega)
                    rw [← ex50] at tx50
                    refine lv_ior hx hb dX9_fitsAlone_94 ?_
                    refine lv_topi (fun x51 ex51 => ?_)
                    have tx51 := z_or (x := v3_5) (y := x50) rfl rfl (k := 16) (N := 65536) (by decide) (by decide) (by omega) (by omega) (by omega) (by omega)
                    rw [← ex51] at tx51
                    refine lv_goto (tgt := 99) hx hb dX9_fitsAlone_95 (by decide) ?_
                    refine lv_istore_n (lv' := [(3, .int x51), (6, .int v6_26), (5, .int v5_26), (4, .int v4_5), (0, .ref (ad 0)), (1, .int li), (2, .int kn)]) hx hb dX9_fitsAlone_99 rfl hl (by decide) rfl (fun ls hl => ?_)
                    obtain ⟨x52, ex52⟩ : ∃ y : Int32, y = v4_5 + 1 := ⟨_, rfl⟩
                    have tx52 : x52.toInt = v4_5.toInt + 1 := by rw [ex52]; exact z_add rfl (by decide : (1 : Int32).toInt = 1) (by omega) (by omega)
                    refine lv_iinc (v := x52) (lv' := [(4, .int x52), (3, .int x51), (6, .int v6_26), (5, .int v5_26), (0, .ref (ad 0)), (1, .int li), (2, .int kn)]) hx hb dX9_fitsAlone_100 hl (k := 3) rfl (by rw [ex52]; rfl) (by decide) rfl (fun ls hl => ?_)
                    refine lv_goto (tgt := 5) hx hb dX9_fitsAlone_103 (by decide) ?_
                    exact ih5 x52 x51 ct40 _ _ ls (by omega) (by first | assumption | omega | decide) (by first | assumption | omega | decide) (by first | assumption | omega | decide) (by first | assumption | omega | decide) (by first | assumption | omega | decide) (by first | assumption | omega | decide) hI hP hD hS (lv_sub hl [0, 1, 4, 5, 6] rfl)
                · skip
                  have c47 : ¬ (v5_26.toInt = 0) := fun q => c47 ((z_eq rfl (by decide : (0 : Int32).toInt = 0)).mpr q)
                  refine lv_iload_n hx hb dX9_fitsAlone_38 rfl (lv_at hl 6 rfl) ?_
                  refine lv_aload_n hx hb dX9_fitsAlone_39 rfl (lv_at hl 4 rfl) ?_
                  obtain ⟨bks54, lks55, gos56, shn57, tpd58, pl059, ln060, flt61, opn62, cmy63, wtg64, nm065, mst66, sus67, cut68, h69, h70, h71, h72, h73, h74, h75, h76, h77, h78, h79, h80, h81, h82, h83, h84, h85, h86, h87, h88, hs53⟩ := a9_0 hI.1
                  refine va_get (D := g.1) (ci := 9) (v := .int gos56) (C := RX9) (T := TX9) (N := 47) hx hb hg inG9 hown hK hP 0 (zw_at (by omega) hs53) rfl 7 (by decide) (hg _ mm_965) (fun _ h9 => h9) rfl dX9_fitsAlone_40 ?_
                  refine lv_iand hx hb dX9_fitsAlone_43 ?_
                  refine lv_topi (fun x89 ex89 => ?_)
                  have tx89 := z_andl (x := kn) (y := gos56) rfl (by omega)
                  rw [← ex89] at tx89
                  refine lv_iload hx hb dX9_fitsAlone_44 (lv_at hl 0 rfl) ?_
                  refine lv_ishr hx hb dX9_fitsAlone_46 ?_
                  refine lv_topi (fun x90 ex90 => ?_)
                  have tx90 := z_shr (x := x89) rfl (by omega) v6_26
                  rw [← ex90] at tx90
                  refine lv_iconst (v := 1) hx hb dX9_fitsAlone_47 (by decide) ?_
                  refine lv_iand hx hb dX9_fitsAlone_48 ?_
                  refine lv_topi (fun x91 ex91 => ?_)
                  have tx91 := z_andr (x := x90) (y := 1) (by decide : (1 : Int32).toInt = 1) (by omega)
                  rw [← ex91] at tx91
                  refine lv_iconst (v := 1) hx hb dX9_fitsAlone_49 (by decide) ?_
                  refine lv_icmp_ne (tgt := 78) hx hb dX9_fitsAlone_50 (by decide) (fun c92 => ?_) (fun c92 => ?_)
                  · skip
                    have c92 : ¬ (x91.toInt = 1) := fun q => c92 ((z_eq rfl (by decide : (1 : Int32).toInt = 1)).mpr q)
                    obtain ⟨x93, ex93⟩ : ∃ y : Int32, y = v6_26 + 1 := ⟨_, rfl⟩
                    have tx93 : x93.toInt = v6_26.toInt + 1 := by rw [ex93]; exact z_add rfl (by decide : (1 : Int32).toInt = 1) (by omega) (by omega)
                    refine lv_iinc (v := x93) (lv' := [(6, .int x93), (5, .int v5_26), (4, .int v4_5), (3, .int v3_5), (0, .ref (ad 0)), (1, .int li), (2, .int kn)]) hx hb dX9_fitsAlone_78 hl (k := 0) rfl (by rw [ex93]; rfl) (by decide) rfl (fun ls hl => ?_)
                    refine lv_goto (tgt := 26) hx hb dX9_fitsAlone_81 (by decide) ?_
                    exact ih26 x93 v5_26 ct40 _ _ ls (by omega) (by first | assumption | omega | decide) (by first | assumption | omega | decide) (by first | assumption | omega | decide) (by first | assumption | omega | decide) (by first | assumption | omega | decide) (by first | assumption | omega | decide) hI hP hD hS (lv_sub hl [0, 1, 2, 3, 4, 5, 6] rfl)
                  · skip
                    have c92 : x91.toInt = 1 := (z_eq rfl (by decide : (1 : Int32).toInt = 1)).mp c92
                    refine lv_aload_n hx hb dX9_fitsAlone_53 rfl (lv_at hl 4 rfl) ?_
                    refine va_get (D := g.1) (ci := 9) (v := .ref (ad 16)) (C := RX9) (T := TX9) (N := 47) hx hb hg inG9 hown hK hP 0 (zw_at (by omega) hs53) rfl 28 (by decide) (hg _ mm_986) (fun _ h9 => h9) rfl dX9_fitsAlone_54 ?_
                    refine lv_iload hx hb dX9_fitsAlone_57 (lv_at hl 0 rfl) ?_
                    obtain ⟨f95, hp96, hs94⟩ := a9_16 hI.1
                    refine va_iald hx hb hK hP 16 0 (zw_at (by omega) hs94) rfl (z_in rfl (by omega) (by omega)) dX9_fitsAlone_59 ?_
                    refine lv_topi (fun y97 ey97 => ?_)
                    have hy97 := hp96 _ (z_clt (x := v6_26) rfl (by omega) (by omega))
                    rw [← ey97] at hy97
                    have hy97 : 0 ≤ y97.toInt ∧ y97.toInt ≤ 31 := hy97
                    refine lv_iload_n hx hb dX9_fitsAlone_60 rfl (lv_at hl 5 rfl) ?_
                    refine lv_icmp_ne (tgt := 78) hx hb dX9_fitsAlone_61 (by decide) (fun c98 => ?_) (fun c98 => ?_)
                    · skip
                      have c98 : ¬ (y97.toInt = li.toInt) := fun q => c98 ((z_eq rfl rfl).mpr q)
                      obtain ⟨x99, ex99⟩ : ∃ y : Int32, y = v6_26 + 1 := ⟨_, rfl⟩
                      have tx99 : x99.toInt = v6_26.toInt + 1 := by rw [ex99]; exact z_add rfl (by decide : (1 : Int32).toInt = 1) (by omega) (by omega)
                      refine lv_iinc (v := x99) (lv' := [(6, .int x99), (5, .int v5_26), (4, .int v4_5), (3, .int v3_5), (0, .ref (ad 0)), (1, .int li), (2, .int kn)]) hx hb dX9_fitsAlone_78 hl (k := 0) rfl (by rw [ex99]; rfl) (by decide) rfl (fun ls hl => ?_)
                      refine lv_goto (tgt := 26) hx hb dX9_fitsAlone_81 (by decide) ?_
                      exact ih26 x99 v5_26 ct40 _ _ ls (by omega) (by first | assumption | omega | decide) (by first | assumption | omega | decide) (by first | assumption | omega | decide) (by first | assumption | omega | decide) (by first | assumption | omega | decide) (by first | assumption | omega | decide) hI hP hD hS (lv_sub hl [0, 1, 2, 3, 4, 5, 6] rfl)
                    · skip
                      have c98 : y97.toInt = li.toInt := (z_eq rfl rfl).mp c98
                      refine lv_aload_n hx hb dX9_fitsAlone_64 rfl (lv_at hl 4 rfl) ?_
                      refine lv_iload hx hb dX9_fitsAlone_65 (lv_at hl 0 rfl) ?_
                      refine lv_iload hx hb dX9_fitsAlone_67 (lv_at hl 2 rfl) ?_
                      refine lv_iload_n hx hb dX9_fitsAlone_69 rfl (lv_at hl 5 rfl) ?_
                      refine lv_bipush (v := 8) hx hb dX9_fitsAlone_70 (by decide) ?_
                      refine lv_irem hx hb dX9_fitsAlone_72 (by decide) ?_
                      refine lv_topi (fun x100 ex100 => ?_)
                      have tx100 := z_rem (x := li) (y := 8) rfl (by decide : (8 : Int32).toInt = 8) (by omega) (by omega)
                      rw [← ex100] at tx100
                      have hFc := zw_free hD hS hA
                      refine va_calli (va_runV (As := [.int v6_26, .int v4_5, .int x100]) (rest := []) ⟨hx, hb, hml, hown, hg⟩ (k_X9_isSaidOf l g _ ad me ct40 v6_26 v4_5 x100 (by first | omega | decide) (by first | omega | decide) (by first | omega | decide) hI) (cwV 3 hg (z_gV mm_1313 mm_1315 mm_83 mm_117 mm_1316) rfl rfl rfl (by decide +kernel) ⟨Nat.le_of_ble_eq_true rfl, Nat.le_of_ble_eq_true rfl⟩) ⟨(zA.pre [.ref (ad 0), .int v6_26, .int v4_5, .int x100] hP hK hD hN).1, va_recv hK hP (ci := 9) (q0 := 0) rfl (zw_at (by omega) hs53), (zA.pre [.ref (ad 0), .int v6_26, .int v4_5, .int x100] hP hK hD hN).2⟩ rfl rfl hl.1 rfl (lv_room (Nat.le_of_ble_eq_true rfl)) dX9_fitsAlone_73 ⟨Nat.le_of_ble_eq_true rfl, Nat.le_of_ble_eq_true rfl⟩) hS (fun q _ h => hFc q h) hFc (fun r101 _ t H1 locs ht hvm hr101 hB hz1 hk1 hS => ?_)
                      obtain ⟨ct102, hP1, hD1, hI, hk103, hk104, hk105, hk106⟩ := hB
                      rw [ht] at hP1
                      have hD := hD1.weaken (fun _ _ _ h => hFc _ h)
                      generalize H1 = H at hP1 hS ⊢
                      have hP := hP1
                      refine W.widen (k := 0) (n := 0) (Nat.le_refl _) (Nat.le_refl _) ?_
                      have hc0 : ct102 0 = ct 0 := hk103.trans hc0
                      have hc5 : ct102 5 = ct 5 := hk104.trans hc5
                      have hc10 : ct102 10 = ct 10 := hk105.trans hc10
                      have hc19 : ct102 19 = ct 19 := hk106.trans hc19
                      have hs107 : ct102 0 = .inr (9, [.int me, .ref (ad 1), .ref (ad 2), .ref (ad 3), .ref (ad 4), .int bks54, .int lks55, .int gos56, .int shn57, .ref (ad 5), .ref (ad 6), .ref (ad 7), .ref (ad 8), .ref (ad 9), .ref (ad 10), .ref (ad 11), .int tpd58, .int pl059, .int ln060, .int flt61, .int opn62, .int cmy63, .int wtg64, .int nm065, .ref (ad 12), .ref (ad 13), .ref (ad 14), .ref (ad 15), .ref (ad 16), .ref (ad 17), .ref (ad 18), .ref (ad 19), .ref (ad 20), .ref (ad 21), .ref (ad 22), .ref (ad 23), .ref (ad 24), .ref (ad 25), .ref (ad 26), .ref (ad 27), .int mst66, .int sus67, .ref (ad 28), .ref (ad 29), .ref (ad 30), .ref (ad 31), .int cut68]) := hk103.trans hs53
                      rcases hr101 with hr101 | hr101
                      · skip
                        obtain rfl := hr101
                        refine lv_istore (lv' := [(5, .int 1), (6, .int v6_26), (4, .int v4_5), (3, .int v3_5), (0, .ref (ad 0)), (1, .int li), (2, .int kn)]) hx hb dX9_fitsAlone_76 hl (by decide) rfl (fun ls hl => ?_)
                        obtain ⟨x108, ex108⟩ : ∃ y : Int32, y = v6_26 + 1 := ⟨_, rfl⟩
                        have tx108 : x108.toInt = v6_26.toInt + 1 := by rw [ex108]; exact z_add rfl (by decide : (1 : Int32).toInt = 1) (by omega) (by omega)
                        refine lv_iinc (v := x108) (lv' := [(6, .int x108), (5, .int 1), (4, .int v4_5), (3, .int v3_5), (0, .ref (ad 0)), (1, .int li), (2, .int kn)]) hx hb dX9_fitsAlone_78 hl (k := 1) rfl (by rw [ex108]; rfl) (by decide) rfl (fun ls hl => ?_)
                        refine lv_goto (tgt := 26) hx hb dX9_fitsAlone_81 (by decide) ?_
                        exact ih26 x108 (1 : Int32) ct102 _ _ ls (by omega) (by first | assumption | omega | decide) (by first | assumption | omega | decide) (by first | assumption | omega | decide) (by first | assumption | omega | decide) (by first | assumption | omega | decide) (by first | assumption | omega | decide) hI hP hD hS (lv_sub hl [0, 1, 2, 3, 4, 5, 6] rfl)
                      · skip
                        obtain rfl := hr101
                        refine lv_istore (lv' := [(5, .int 0), (6, .int v6_26), (4, .int v4_5), (3, .int v3_5), (0, .ref (ad 0)), (1, .int li), (2, .int kn)]) hx hb dX9_fitsAlone_76 hl (by decide) rfl (fun ls hl => ?_)
                        obtain ⟨x109, ex109⟩ : ∃ y : Int32, y = v6_26 + 1 := ⟨_, rfl⟩
                        have tx109 : x109.toInt = v6_26.toInt + 1 := by rw [ex109]; exact z_add rfl (by decide : (1 : Int32).toInt = 1) (by omega) (by omega)
                        refine lv_iinc (v := x109) (lv' := [(6, .int x109), (5, .int 0), (4, .int v4_5), (3, .int v3_5), (0, .ref (ad 0)), (1, .int li), (2, .int kn)]) hx hb dX9_fitsAlone_78 hl (k := 1) rfl (by rw [ex109]; rfl) (by decide) rfl (fun ls hl => ?_)
                        refine lv_goto (tgt := 26) hx hb dX9_fitsAlone_81 (by decide) ?_
                        exact ih26 x109 (0 : Int32) ct102 _ _ ls (by omega) (by first | assumption | omega | decide) (by first | assumption | omega | decide) (by first | assumption | omega | decide) (by first | assumption | omega | decide) (by first | assumption | omega | decide) (by first | assumption | omega | decide) hI hP hD hS (lv_sub hl [0, 1, 2, 3, 4, 5, 6] rfl)
          exact loop26 ((8 - (0 : Int32).toInt : Int).toNat + 1) (0 : Int32) (1 : Int32) ct1 _ _ ls (by omega) (by first | assumption | omega | decide) (by first | assumption | omega | decide) (by first | assumption | omega | decide) (by first | assumption | omega | decide) (by first | assumption | omega | decide) (by first | assumption | omega | decide) hI hP hD hS (lv_sub hl [0, 1, 2, 3, 4, 5, 6] rfl)
        · skip
          obtain rfl := hr39
          refine lv_istore (lv' := [(5, .int 0), (4, .int v4_5), (3, .int v3_5), (0, .ref (ad 0)), (1, .int li), (2, .int kn)]) hx hb dX9_fitsAlone_21 hl (by decide) rfl (fun ls hl => ?_)
          refine lv_iconst (v := 0) hx hb dX9_fitsAlone_23 (by decide) ?_
          refine lv_istore (lv' := [(6, .int 0), (5, .int 0), (4, .int v4_5), (3, .int v3_5), (0, .ref (ad 0)), (1, .int li), (2, .int kn)]) hx hb dX9_fitsAlone_24 hl (by decide) rfl (fun ls hl => ?_)
          have loop26 : ∀ (n26 : Nat) (v6_26 : Int32) (v5_26 : Int32) (ct110 : Nat → va_E) (H : Heap) (locs : List Loc) (ls : Array Slot), ((8 - v6_26.toInt : Int).toNat < n26) → (0 ≤ v6_26.toInt ∧ v6_26.toInt ≤ 8) → (0 ≤ v5_26.toInt ∧ v5_26.toInt ≤ 1) → (ct110 0 = ct 0) → (ct110 5 = ct 5) → (ct110 10 = ct 10) → (ct110 19 = ct 19) → (IR g ad me ct110) → zP g (zw 32 ad ct110) H → va_D A (zw 32 ad ct110) → va_S A s.heap H locs → lv_has ls 7 [(6, .int v6_26), (5, .int v5_26), (4, .int v4_5), (3, .int v3_5), (0, .ref (ad 0)), (1, .int li), (2, .int kn)] → W p l e (headSpec (zW yX9_fitsAlone cX9_fitsAlone 7 (some .int)) ({ frames := 3, cells := 0, slots := 0, locals := 73 })).room s m ([.ref (ad 0), .int li, .int kn] : List Value).toArray below meth c H locs 0 0 (MQ below (va_Qi (fun (r : Int32) (_ : Unit) => ((0 ≤ r.toInt) ∧ (r.toInt ≤ 65535))) (fun _ t => ∃ ct2 : Nat → va_E, zP g (zw 32 ad ct2) t.heap ∧ va_D A (zw 32 ad ct2) ∧ IR g ad me ct2 ∧ (ct2 0 = ct 0) ∧ (ct2 5 = ct 5) ∧ (ct2 10 = ct 10) ∧ (ct2 19 = ct 19)) A) ([.ref (ad 0), .int li, .int kn] : List Value).toArray s 0 0 A) (F0 m 26 ls []) := by
            intro n26
            induction n26 with
            | zero =>
              intro v6_26 v5_26 ct110 H locs ls hn26 b6_26 b5_26 hc0 hc5 hc10 hc19 hI hP hD hS hl
              exact absurd hn26 (Nat.not_lt_zero _)
            | succ n26 ih26 =>
              intro v6_26 v5_26 ct110 H locs ls hn26 b6_26 b5_26 hc0 hc5 hc10 hc19 hI hP hD hS hl
              refine lv_iload hx hb dX9_fitsAlone_26 (lv_at hl 0 rfl) ?_
              refine lv_bipush (v := 8) hx hb dX9_fitsAlone_28 (by decide) ?_
              refine lv_icmp_ge (tgt := 84) hx hb dX9_fitsAlone_30 (by decide) (fun c111 => ?_) (fun c111 => ?_)
              · skip
                have c111 : 8 ≤ v6_26.toInt := (z_le (by decide : (8 : Int32).toInt = 8) rfl).mp c111
                refine lv_iload hx hb dX9_fitsAlone_84 (lv_at hl 1 rfl) ?_
                refine lv_if_eq (tgt := 98) hx hb dX9_fitsAlone_86 (by decide) (fun c112 => ?_) (fun c112 => ?_)
                · skip
                  have c112 : v5_26.toInt = 0 := (z_eq rfl (by decide : (0 : Int32).toInt = 0)).mp c112
                  refine lv_iload_n hx hb dX9_fitsAlone_98 rfl (lv_at hl 3 rfl) ?_
                  refine lv_istore_n (lv' := [(3, .int v3_5), (6, .int v6_26), (5, .int v5_26), (4, .int v4_5), (0, .ref (ad 0)), (1, .int li), (2, .int kn)]) hx hb dX9_fitsAlone_99 rfl hl (by decide) rfl (fun ls hl => ?_)
                  obtain ⟨x113, ex113⟩ : ∃ y : Int32, y = v4_5 + 1 := ⟨_, rfl⟩
                  have tx113 : x113.toInt = v4_5.toInt + 1 := by rw [ex113]; exact z_add rfl (by decide : (1 : Int32).toInt = 1) (by omega) (by omega)
                  refine lv_iinc (v := x113) (lv' := [(4, .int x113), (3, .int v3_5), (6, .int v6_26), (5, .int v5_26), (0, .ref (ad 0)), (1, .int li), (2, .int kn)]) hx hb dX9_fitsAlone_100 hl (k := 3) rfl (by rw [ex113]; rfl) (by decide) rfl (fun ls hl => ?_)
                  refine lv_goto (tgt := 5) hx hb dX9_fitsAlone_103 (by decide) ?_
                  exact ih5 x113 v3_5 ct110 _ _ ls (by omega) (by first | assumption | omega | decide) (by first | assumption | omega | decide) (by first | assumption | omega | decide) (by first | assumption | omega | decide) (by first | assumption | omega | decide) (by first | assumption | omega | decide) hI hP hD hS (lv_sub hl [0, 1, 4, 5, 6] rfl)
                · skip
                  have c112 : ¬ (v5_26.toInt = 0) := fun q => c112 ((z_eq rfl (by decide : (0 : Int32).toInt = 0)).mpr q)
                  refine lv_iload_n hx hb dX9_fitsAlone_89 rfl (lv_at hl 3 rfl) ?_
                  refine lv_iconst (v := 1) hx hb dX9_fitsAlone_90 (by decide) ?_
                  refine lv_iload hx hb dX9_fitsAlone_91 (lv_at hl 2 rfl) ?_
                  refine lv_ishl hx hb dX9_fitsAlone_93 ?_
                  refine lv_topi (fun x114 ex114 => ?_)
                  have tx114 := z_shl1 (y := v4_5) rfl (by omega) (k := 15) (by decide) (by omega)
                  rw [← ex114] at tx114
                  refine lv_ior hx hb dX9_fitsAlone_94 ?_
                  refine lv_topi (fun x115 ex115 => ?_)
                  have tx115 := z_or (x := v3_5) (y := x114) rfl rfl (k := 16) (N := 65536) (by decide) (by decide) (by omega) (by omega) (by omega) (by omega)
                  rw [← ex115] at tx115
                  refine lv_goto (tgt := 99) hx hb dX9_fitsAlone_95 (by decide) ?_
                  refine lv_istore_n (lv' := [(3, .int x115), (6, .int v6_26), (5, .int v5_26), (4, .int v4_5), (0, .ref (ad 0)), (1, .int li), (2, .int kn)]) hx hb dX9_fitsAlone_99 rfl hl (by decide) rfl (fun ls hl => ?_)
                  obtain ⟨x116, ex116⟩ : ∃ y : Int32, y = v4_5 + 1 := ⟨_, rfl⟩
                  have tx116 : x116.toInt = v4_5.toInt + 1 := by rw [ex116]; exact z_add rfl (by decide : (1 : Int32).toInt = 1) (by omega) (by omega)
                  refine lv_iinc (v := x116) (lv' := [(4, .int x116), (3, .int x115), (6, .int v6_26), (5, .int v5_26), (0, .ref (ad 0)), (1, .int li), (2, .int kn)]) hx hb dX9_fitsAlone_100 hl (k := 3) rfl (by rw [ex116]; rfl) (by decide) rfl (fun ls hl => ?_)
                  refine lv_goto (tgt := 5) hx hb dX9_fitsAlone_103 (by decide) ?_
                  exact ih5 x116 x115 ct110 _ _ ls (by omega) (by first | assumption | omega | decide) (by first | assumption | omega | decide) (by first | assumption | omega | decide) (by first | assumption | omega | decide) (by first | assumption | omega | decide) (by first | assumption | omega | decide) hI hP hD hS (lv_sub hl [0, 1, 4, 5, 6] rfl)
              · skip
                have c111 : ¬ (8 ≤ v6_26.toInt) := fun q => c111 ((z_le (by decide : (8 : Int32).toInt = 8) rfl).mpr q)
                refine lv_iload hx hb dX9_fitsAlone_33 (lv_at hl 1 rfl) ?_
                refine lv_if_eq (tgt := 84) hx hb dX9_fitsAlone_35 (by decide) (fun c117 => ?_) (fun c117 => ?_)
                · skip
                  have c117 : v5_26.toInt = 0 := (z_eq rfl (by decide : (0 : Int32).toInt = 0)).mp c117
                  refine lv_iload hx hb dX9_fitsAlone_84 (lv_at hl 1 rfl) ?_
                  refine lv_if_eq (tgt := 98) hx hb dX9_fitsAlone_86 (by decide) (fun c118 => ?_) (fun c118 => ?_)
                  · skip
                    have c118 : v5_26.toInt = 0 := (z_eq rfl (by decide : (0 : Int32).toInt = 0)).mp c118
                    refine lv_iload_n hx hb dX9_fitsAlone_98 rfl (lv_at hl 3 rfl) ?_
                    refine lv_istore_n (lv' := [(3, .int v3_5), (6, .int v6_26), (5, .int v5_26), (4, .int v4_5), (0, .ref (ad 0)), (1, .int li), (2, .int kn)]) hx hb dX9_fitsAlone_99 rfl hl (by decide) rfl (fun ls hl => ?_)
                    obtain ⟨x119, ex119⟩ : ∃ y : Int32, y = v4_5 + 1 := ⟨_, rfl⟩
                    have tx119 : x119.toInt = v4_5.toInt + 1 := by rw [ex119]; exact z_add rfl (by decide : (1 : Int32).toInt = 1) (by omega) (by omega)
                    refine lv_iinc (v := x119) (lv' := [(4, .int x119), (3, .int v3_5), (6, .int v6_26), (5, .int v5_26), (0, .ref (ad 0)), (1, .int li), (2, .int kn)]) hx hb dX9_fitsAlone_100 hl (k := 3) rfl (by rw [ex119]; rfl) (by decide) rfl (fun ls hl => ?_)
                    refine lv_goto (tgt := 5) hx hb dX9_fitsAlone_103 (by decide) ?_
                    exact ih5 x119 v3_5 ct110 _ _ ls (by omega) (by first | assumption | omega | decide) (by first | assumption | omega | decide) (by first | assumption | omega | decide) (by first | assumption | omega | decide) (by first | assumption | omega | decide) (by first | assumption | omega | decide) hI hP hD hS (lv_sub hl [0, 1, 4, 5, 6] rfl)
                  · skip
                    have c118 : ¬ (v5_26.toInt = 0) := fun q => c118 ((z_eq rfl (by decide : (0 : Int32).toInt = 0)).mpr q)
                    refine lv_iload_n hx hb dX9_fitsAlone_89 rfl (lv_at hl 3 rfl) ?_
                    refine lv_iconst (v := 1) hx hb dX9_fitsAlone_90 (by decide) ?_
                    refine lv_iload hx hb dX9_fitsAlone_91 (lv_at hl 2 rfl) ?_
                    refine lv_ishl hx hb dX9_fitsAlone_93 ?_
                    refine lv_topi (fun x120 ex120 => ?_)
                    have tx120 := z_shl1 (y := v4_5) rfl (by omega) (k := 15) (by decide) (by omega)
                    rw [← ex120] at tx120
                    refine lv_ior hx hb dX9_fitsAlone_94 ?_
                    refine lv_topi (fun x121 ex121 => ?_)
                    have tx121 := z_or (x := v3_5) (y := x120) rfl rfl (k := 16) (N := 65536) (by decide) (by decide) (by omega) (by omega) (by omega) (by omega)
                    rw [← ex121] at tx121
                    refine lv_goto (tgt := 99) hx hb dX9_fitsAlone_95 (by decide) ?_
                    refine lv_istore_n (lv' := [(3, .int x121), (6, .int v6_26), (5, .int v5_26), (4, .int v4_5), (0, .ref (ad 0)), (1, .int li), (2, .int kn)]) hx hb dX9_fitsAlone_99 rfl hl (by decide) rfl (fun ls hl => ?_)
                    obtain ⟨x122, ex122⟩ : ∃ y : Int32, y = v4_5 + 1 := ⟨_, rfl⟩
                    have tx122 : x122.toInt = v4_5.toInt + 1 := by rw [ex122]; exact z_add rfl (by decide : (1 : Int32).toInt = 1) (by omega) (by omega)
                    refine lv_iinc (v := x122) (lv' := [(4, .int x122), (3, .int x121), (6, .int v6_26), (5, .int v5_26), (0, .ref (ad 0)), (1, .int li), (2, .int kn)]) hx hb dX9_fitsAlone_100 hl (k := 3) rfl (by rw [ex122]; rfl) (by decide) rfl (fun ls hl => ?_)
                    refine lv_goto (tgt := 5) hx hb dX9_fitsAlone_103 (by decide) ?_
                    exact ih5 x122 x121 ct110 _ _ ls (by omega) (by first | assumption | omega | decide) (by first | assumption | omega | decide) (by first | assumption | omega | decide) (by first | assumption | omega | decide) (by first | assumption | omega | decide) (by first | assumption | omega | decide) hI hP hD hS (lv_sub hl [0, 1, 4, 5, 6] rfl)
                · skip
                  have c117 : ¬ (v5_26.toInt = 0) := fun q => c117 ((z_eq rfl (by decide : (0 : Int32).toInt = 0)).mpr q)
                  refine lv_iload_n hx hb dX9_fitsAlone_38 rfl (lv_at hl 6 rfl) ?_
                  refine lv_aload_n hx hb dX9_fitsAlone_39 rfl (lv_at hl 4 rfl) ?_
                  obtain ⟨bks124, lks125, gos126, shn127, tpd128, pl0129, ln0130, flt131, opn132, cmy133, wtg134, nm0135, mst136, sus137, cut138, h139, h140, h141, h142, h143, h144, h145, h146, h147, h148, h149, h150, h151, h152, h153, h154, h155, h156, h157, h158, hs123⟩ := a9_0 hI.1
                  refine va_get (D := g.1) (ci := 9) (v := .int gos126) (C := RX9) (T := TX9) (N := 47) hx hb hg inG9 hown hK hP 0 (zw_at (by omega) hs123) rfl 7 (by decide) (hg _ mm_965) (fun _ h9 => h9) rfl dX9_fitsAlone_40 ?_
                  refine lv_iand hx hb dX9_fitsAlone_43 ?_
                  refine lv_topi (fun x159 ex159 => ?_)
                  have tx159 := z_andl (x := kn) (y := gos126) rfl (by omega)
                  rw [← ex159] at tx159
                  refine lv_iload hx hb dX9_fitsAlone_44 (lv_at hl 0 rfl) ?_
                  refine lv_ishr hx hb dX9_fitsAlone_46 ?_
                  refine lv_topi (fun x160 ex160 => ?_)
                  have tx160 := z_shr (x := x159) rfl (by omega) v6_26
                  rw [← ex160] at tx160
                  refine lv_iconst (v := 1) hx hb dX9_fitsAlone_47 (by decide) ?_
                  refine lv_iand hx hb dX9_fitsAlone_48 ?_
                  refine lv_topi (fun x161 ex161 => ?_)
                  have tx161 := z_andr (x := x160) (y := 1) (by decide : (1 : Int32).toInt = 1) (by omega)
                  rw [← ex161] at tx161
                  refine lv_iconst (v := 1) hx hb dX9_fitsAlone_49 (by decide) ?_
                  refine lv_icmp_ne (tgt := 78) hx hb dX9_fitsAlone_50 (by decide) (fun c162 => ?_) (fun c162 => ?_)
                  · skip
                    have c162 : ¬ (x161.toInt = 1) := fun q => c162 ((z_eq rfl (by decide : (1 : Int32).toInt = 1)).mpr q)
                    obtain ⟨x163, ex163⟩ : ∃ y : Int32, y = v6_26 + 1 := ⟨_, rfl⟩
                    have tx163 : x163.toInt = v6_26.toInt + 1 := by rw [ex163]; exact z_add rfl (by decide : (1 : Int32).toInt = 1) (by omega) (by omega)
                    refine lv_iinc (v := x163) (lv' := [(6, .int x163), (5, .int v5_26), (4, .int v4_5), (3, .int v3_5), (0, .ref (ad 0)), (1, .int li), (2, .int kn)]) hx hb dX9_fitsAlone_78 hl (k := 0) rfl (by rw [ex163]; rfl) (by decide) rfl (fun ls hl => ?_)
                    refine lv_goto (tgt := 26) hx hb dX9_fitsAlone_81 (by decide) ?_
                    exact ih26 x163 v5_26 ct110 _ _ ls (by omega) (by first | assumption | omega | decide) (by first | assumption | omega | decide) (by first | assumption | omega | decide) (by first | assumption | omega | decide) (by first | assumption | omega | decide) (by first | assumption | omega | decide) hI hP hD hS (lv_sub hl [0, 1, 2, 3, 4, 5, 6] rfl)
                  · skip
                    have c162 : x161.toInt = 1 := (z_eq rfl (by decide : (1 : Int32).toInt = 1)).mp c162
                    refine lv_aload_n hx hb dX9_fitsAlone_53 rfl (lv_at hl 4 rfl) ?_
                    refine va_get (D := g.1) (ci := 9) (v := .ref (ad 16)) (C := RX9) (T := TX9) (N := 47) hx hb hg inG9 hown hK hP 0 (zw_at (by omega) hs123) rfl 28 (by decide) (hg _ mm_986) (fun _ h9 => h9) rfl dX9_fitsAlone_54 ?_
                    refine lv_iload hx hb dX9_fitsAlone_57 (lv_at hl 0 rfl) ?_
                    obtain ⟨f165, hp166, hs164⟩ := a9_16 hI.1
                    refine va_iald hx hb hK hP 16 0 (zw_at (by omega) hs164) rfl (z_in rfl (by omega) (by omega)) dX9_fitsAlone_59 ?_
                    refine lv_topi (fun y167 ey167 => ?_)
                    have hy167 := hp166 _ (z_clt (x := v6_26) rfl (by omega) (by omega))
                    rw [← ey167] at hy167
                    have hy167 : 0 ≤ y167.toInt ∧ y167.toInt ≤ 31 := hy167
                    refine lv_iload_n hx hb dX9_fitsAlone_60 rfl (lv_at hl 5 rfl) ?_
                    refine lv_icmp_ne (tgt := 78) hx hb dX9_fitsAlone_61 (by decide) (fun c168 => ?_) (fun c168 => ?_)
                    · skip
                      have c168 : ¬ (y167.toInt = li.toInt) := fun q => c168 ((z_eq rfl rfl).mpr q)
                      obtain ⟨x169, ex169⟩ : ∃ y : Int32, y = v6_26 + 1 := ⟨_, rfl⟩
                      have tx169 : x169.toInt = v6_26.toInt + 1 := by rw [ex169]; exact z_add rfl (by decide : (1 : Int32).toInt = 1) (by omega) (by omega)
                      refine lv_iinc (v := x169) (lv' := [(6, .int x169), (5, .int v5_26), (4, .int v4_5), (3, .int v3_5), (0, .ref (ad 0)), (1, .int li), (2, .int kn)]) hx hb dX9_fitsAlone_78 hl (k := 0) rfl (by rw [ex169]; rfl) (by decide) rfl (fun ls hl => ?_)
                      refine lv_goto (tgt := 26) hx hb dX9_fitsAlone_81 (by decide) ?_
                      exact ih26 x169 v5_26 ct110 _ _ ls (by omega) (by first | assumption | omega | decide) (by first | assumption | omega | decide) (by first | assumption | omega | decide) (by first | assumption | omega | decide) (by first | assumption | omega | decide) (by first | assumption | omega | decide) hI hP hD hS (lv_sub hl [0, 1, 2, 3, 4, 5, 6] rfl)
                    · skip
                      have c168 : y167.toInt = li.toInt := (z_eq rfl rfl).mp c168
                      refine lv_aload_n hx hb dX9_fitsAlone_64 rfl (lv_at hl 4 rfl) ?_
                      refine lv_iload hx hb dX9_fitsAlone_65 (lv_at hl 0 rfl) ?_
                      refine lv_iload hx hb dX9_fitsAlone_67 (lv_at hl 2 rfl) ?_
                      refine lv_iload_n hx hb dX9_fitsAlone_69 rfl (lv_at hl 5 rfl) ?_
                      refine lv_bipush (v := 8) hx hb dX9_fitsAlone_70 (by decide) ?_
                      refine lv_irem hx hb dX9_fitsAlone_72 (by decide) ?_
                      refine lv_topi (fun x170 ex170 => ?_)
                      have tx170 := z_rem (x := li) (y := 8) rfl (by decide : (8 : Int32).toInt = 8) (by omega) (by omega)
                      rw [← ex170] at tx170
                      have hFc := zw_free hD hS hA
                      refine va_calli (va_runV (As := [.int v6_26, .int v4_5, .int x170]) (rest := []) ⟨hx, hb, hml, hown, hg⟩ (k_X9_isSaidOf l g _ ad me ct110 v6_26 v4_5 x170 (by first | omega | decide) (by first | omega | decide) (by first | omega | decide) hI) (cwV 3 hg (z_gV mm_1313 mm_1315 mm_83 mm_117 mm_1316) rfl rfl rfl (by decide +kernel) ⟨Nat.le_of_ble_eq_true rfl, Nat.le_of_ble_eq_true rfl⟩) ⟨(zA.pre [.ref (ad 0), .int v6_26, .int v4_5, .int x170] hP hK hD hN).1, va_recv hK hP (ci := 9) (q0 := 0) rfl (zw_at (by omega) hs123), (zA.pre [.ref (ad 0), .int v6_26, .int v4_5, .int x170] hP hK hD hN).2⟩ rfl rfl hl.1 rfl (lv_room (Nat.le_of_ble_eq_true rfl)) dX9_fitsAlone_73 ⟨Nat.le_of_ble_eq_true rfl, Nat.le_of_ble_eq_true rfl⟩) hS (fun q _ h => hFc q h) hFc (fun r171 _ t H1 locs ht hvm hr171 hB hz1 hk1 hS => ?_)
                      obtain ⟨ct172, hP1, hD1, hI, hk173, hk174, hk175, hk176⟩ := hB
                      rw [ht] at hP1
                      have hD := hD1.weaken (fun _ _ _ h => hFc _ h)
                      generalize H1 = H at hP1 hS ⊢
                      have hP := hP1
                      refine W.widen (k := 0) (n := 0) (Nat.le_refl _) (Nat.le_refl _) ?_
                      have hc0 : ct172 0 = ct 0 := hk173.trans hc0
                      have hc5 : ct172 5 = ct 5 := hk174.trans hc5
                      have hc10 : ct172 10 = ct 10 := hk175.trans hc10
                      have hc19 : ct172 19 = ct 19 := hk176.trans hc19
                      have hs177 : ct172 0 = .inr (9, [.int me, .ref (ad 1), .ref (ad 2), .ref (ad 3), .ref (ad 4), .int bks124, .int lks125, .int gos126, .int shn127, .ref (ad 5), .ref (ad 6), .ref (ad 7), .ref (ad 8), .ref (ad 9), .ref (ad 10), .ref (ad 11), .int tpd128, .int pl0129, .int ln0130, .int flt131, .int opn132, .int cmy133, .int wtg134, .int nm0135, .ref (ad 12), .ref (ad 13), .ref (ad 14), .ref (ad 15), .ref (ad 16), .ref (ad 17), .ref (ad 18), .ref (ad 19), .ref (ad 20), .ref (ad 21), .ref (ad 22), .ref (ad 23), .ref (ad 24), .ref (ad 25), .ref (ad 26), .ref (ad 27), .int mst136, .int sus137, .ref (ad 28), .ref (ad 29), .ref (ad 30), .ref (ad 31), .int cut138]) := hk173.trans hs123
                      rcases hr171 with hr171 | hr171
                      · skip
                        obtain rfl := hr171
                        refine lv_istore (lv' := [(5, .int 1), (6, .int v6_26), (4, .int v4_5), (3, .int v3_5), (0, .ref (ad 0)), (1, .int li), (2, .int kn)]) hx hb dX9_fitsAlone_76 hl (by decide) rfl (fun ls hl => ?_)
                        obtain ⟨x178, ex178⟩ : ∃ y : Int32, y = v6_26 + 1 := ⟨_, rfl⟩
                        have tx178 : x178.toInt = v6_26.toInt + 1 := by rw [ex178]; exact z_add rfl (by decide : (1 : Int32).toInt = 1) (by omega) (by omega)
                        refine lv_iinc (v := x178) (lv' := [(6, .int x178), (5, .int 1), (4, .int v4_5), (3, .int v3_5), (0, .ref (ad 0)), (1, .int li), (2, .int kn)]) hx hb dX9_fitsAlone_78 hl (k := 1) rfl (by rw [ex178]; rfl) (by decide) rfl (fun ls hl => ?_)
                        refine lv_goto (tgt := 26) hx hb dX9_fitsAlone_81 (by decide) ?_
                        exact ih26 x178 (1 : Int32) ct172 _ _ ls (by omega) (by first | assumption | omega | decide) (by first | assumption | omega | decide) (by first | assumption | omega | decide) (by first | assumption | omega | decide) (by first | assumption | omega | decide) (by first | assumption | omega | decide) hI hP hD hS (lv_sub hl [0, 1, 2, 3, 4, 5, 6] rfl)
                      · skip
                        obtain rfl := hr171
                        refine lv_istore (lv' := [(5, .int 0), (6, .int v6_26), (4, .int v4_5), (3, .int v3_5), (0, .ref (ad 0)), (1, .int li), (2, .int kn)]) hx hb dX9_fitsAlone_76 hl (by decide) rfl (fun ls hl => ?_)
                        obtain ⟨x179, ex179⟩ : ∃ y : Int32, y = v6_26 + 1 := ⟨_, rfl⟩
                        have tx179 : x179.toInt = v6_26.toInt + 1 := by rw [ex179]; exact z_add rfl (by decide : (1 : Int32).toInt = 1) (by omega) (by omega)
                        refine lv_iinc (v := x179) (lv' := [(6, .int x179), (5, .int 0), (4, .int v4_5), (3, .int v3_5), (0, .ref (ad 0)), (1, .int li), (2, .int kn)]) hx hb dX9_fitsAlone_78 hl (k := 1) rfl (by rw [ex179]; rfl) (by decide) rfl (fun ls hl => ?_)
                        refine lv_goto (tgt := 26) hx hb dX9_fitsAlone_81 (by decide) ?_
                        exact ih26 x179 (0 : Int32) ct172 _ _ ls (by omega) (by first | assumption | omega | decide) (by first | assumption | omega | decide) (by first | assumption | omega | decide) (by first | assumption | omega | decide) (by first | assumption | omega | decide) (by first | assumption | omega | decide) hI hP hD hS (lv_sub hl [0, 1, 2, 3, 4, 5, 6] rfl)
          exact loop26 ((8 - (0 : Int32).toInt : Int).toNat + 1) (0 : Int32) (0 : Int32) ct1 _ _ ls (by omega) (by first | assumption | omega | decide) (by first | assumption | omega | decide) (by first | assumption | omega | decide) (by first | assumption | omega | decide) (by first | assumption | omega | decide) (by first | assumption | omega | decide) hI hP hD hS (lv_sub hl [0, 1, 2, 3, 4, 5, 6] rfl)
  exact loop5 ((16 - (0 : Int32).toInt : Int).toNat + 1) (0 : Int32) (0 : Int32) ct _ _ ls (by omega) (by first | assumption | omega | decide) (by first | assumption | omega | decide) (by first | assumption | omega | decide) (by first | assumption | omega | decide) (by first | assumption | omega | decide) (by first | assumption | omega | decide) hI hP hD hS (lv_sub hl [0, 1, 2, 3, 4] rfl)
