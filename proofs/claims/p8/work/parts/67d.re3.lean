set_option maxHeartbeats 4000000 in
set_option maxRecDepth 100000 in
theorem k_X9_gossip (l : Launch) (g : zG) (sz : Nat) (ad : Nat → Nat) (me : Int32) (ct : Nat → va_E) (g0 : Int32) (b : Int32) (i : Int32) (n : Int32) (hI : IR g ad me ct) : Met l yX9_gossip (zW yX9_gossip cX9_gossip 7 (some .int)) ({ frames := 7, cells := 0, slots := 0, locals := 145 }) (va_Pc [.ref (ad 0), .int g0, .int b, .int i, .int n] (zA g (zw 32 ad ct) sz)) (va_Qi (fun (r : Int32) (_ : Unit) => (True)) (fun _ t => ∃ ct2 : Nat → va_E, zP g (zw 32 ad ct2) t.heap ∧ va_D (va_A (zw 32 ad ct) sz) (zw 32 ad ct2) ∧ IR g ad me ct2) (va_A (zw 32 ad ct) sz)) 0 0 (va_A (zw 32 ad ct) sz) := by
  refine Met.ofW (cc := cX9_gossip) (maxL := 7) (ret := (some .int)) (by decide) rfl ?_
  intro p e s m args below meth c s₁ B hml hv
  obtain ⟨rfl, hsz, hP, hK, hD0, hN⟩ := hv
  have hx := B.exec
  have hb := B.bytes
  have hr := B.returns
  have hg := zW.law (atoms_spec (ws := (zW yX9_gossip cX9_gossip 7 (some .int))) B.pre)
  have hown : s.vm.findClass RX9 = some m.cls := findClass_of_methodNamed B.named
  have hlocks := B.notSynchronized
  have hpe0 := hI.1.1
  subst hsz
  have hD := hD0.self (sz := s.heap.size)
  generalize hAe : va_A (zw 32 ad ct) s.heap.size = A at hD ⊢
  have hA : ∀ q : Nat, s.heap.size ≤ q → A q := fun q h => by rw [← hAe]; exact Or.inr h
  have hS : va_S A s.heap s.heap [] := va_S.rf
  have hl := lv_entry ([.ref (ad 0), .int g0, .int b, .int i, .int n]) (n := 7) (Nat.le_of_ble_eq_true rfl)
  rw [lg_entry_eq]
  generalize (lg_sl ([.ref (ad 0), .int g0, .int b, .int i, .int n]) ++ List.replicate (7 - (lg_sl ([.ref (ad 0), .int g0, .int b, .int i, .int n])).length) Slot.unset).toArray = ls at hl ⊢
  have hl : lv_has ls 7 [(0, .ref (ad 0)), (1, .int g0), (2, .int b), (3, .int i), (4, .int n)] := hl
  have rg_g0 := z_rng g0
  have rg_b := z_rng b
  have rg_i := z_rng i
  have rg_n := z_rng n
  have q0 : ((0 : Int32)).toInt = 0 := by decide
  have q1 : ((1 : Int32)).toInt = 1 := by decide
  refine lv_iload_n hx hb dX9_gossip_0 rfl (lv_at hl 1 rfl) ?_
  refine lv_iconst (v := 0) hx hb dX9_gossip_1 (by decide) ?_
  refine lv_bipush (v := 7) hx hb dX9_gossip_2 (by decide) ?_
  refine zc_i (va_runS (As := [.int g0, .int 0, .int 7]) (rest := []) ⟨hx, hb, hml, hown, hg⟩ (k_X9_in l g ad me ct g0 (0 : Int32) (7 : Int32) hI) (va_cwS 3 hg (z_gS mm_1109 mm_1110 mm_117 mm_1111) rfl rfl rfl (by decide +kernel) ⟨Nat.le_of_ble_eq_true rfl, Nat.le_of_ble_eq_true rfl⟩) (zR.pre [.int g0, .int 0, .int 7] hP hK hN) rfl rfl hl.1 rfl (lv_room (Nat.le_of_ble_eq_true rfl)) dX9_gossip_4 ⟨Nat.le_of_ble_eq_true rfl, Nat.le_of_ble_eq_true rfl⟩) (fun r1 hr1 => ?_)
  rcases hr1 with hr1 | hr1
  · skip
    obtain ⟨rfl, h2, h3⟩ := hr1
    replace h2 : (0 : Int) ≤ g0.toInt := h2
    replace h3 : g0.toInt ≤ (7 : Int) := h3
    refine lv_if_eq (tgt := 39) hx hb dX9_gossip_7 (by decide) (fun c4 => ?_) (fun c4 => ?_)
    · skip
      exact absurd c4 (by decide)
    · skip
      refine lv_aload_n hx hb dX9_gossip_10 rfl (lv_at hl 0 rfl) ?_
      refine lv_iload_n hx hb dX9_gossip_11 rfl (lv_at hl 2 rfl) ?_
      refine lv_iload_n hx hb dX9_gossip_12 rfl (lv_at hl 3 rfl) ?_
      obtain ⟨bks6, lks7, gos8, shn9, tpd10, pl011, ln012, flt13, opn14, cmy15, wtg16, nm017, mst18, sus19, cut20, h21, h22, h23, h24, h25, h26, h27, h28, h29, h30, h31, h32, h33, h34, h35, h36, h37, h38, h39, h40, hs5⟩ := a9_0 hI.1
      have z17_hs5 : zfi 17 (ct 0) = pl011.toInt := by rw [hs5]; rfl
      have z18_hs5 : zfi 18 (ct 0) = ln012.toInt := by rw [hs5]; rfl
      have z21_hs5 : zfi 21 (ct 0) = cmy15.toInt := by rw [hs5]; rfl
      refine zc_i (va_runV (As := [.int b, .int i]) (rest := []) ⟨hx, hb, hml, hown, hg⟩ (k_X9_isLine l g ad me ct b i hI) (cwV 2 hg (z_gV mm_1170 mm_1172 mm_57 mm_117 mm_1173) rfl rfl rfl (by decide +kernel) ⟨Nat.le_of_ble_eq_true rfl, Nat.le_of_ble_eq_true rfl⟩) ⟨(zR.pre [.ref (ad 0), .int b, .int i] hP hK hN).1, va_recv hK hP (ci := 9) (q0 := 0) rfl (zw_at (by omega) hs5), (zR.pre [.ref (ad 0), .int b, .int i] hP hK hN).2⟩ rfl rfl hl.1 rfl (lv_room (Nat.le_of_ble_eq_true rfl)) dX9_gossip_13 ⟨Nat.le_of_ble_eq_true rfl, Nat.le_of_ble_eq_true rfl⟩) (fun r41 hr41 => ?_)
      rcases hr41 with hr41 | hr41
      · skip
        obtain ⟨rfl, h42, h43⟩ := hr41
        replace h42 : 0 ≤ b.toInt ∧ b.toInt ≤ 3 := h42
        replace h43 : 0 ≤ i.toInt ∧ i.toInt ≤ 7 := h43
        refine lv_if_eq (tgt := 39) hx hb dX9_gossip_16 (by decide) (fun c44 => ?_) (fun c44 => ?_)
        · skip
          exact absurd c44 (by decide)
        · skip
          refine lv_iload hx hb dX9_gossip_19 (lv_at hl 4 rfl) ?_
          refine lv_iconst (v := 1) hx hb dX9_gossip_21 (by decide) ?_
          refine lv_bipush (v := 100) hx hb dX9_gossip_22 (by decide) ?_
          refine zc_i (va_runS (As := [.int n, .int 1, .int 100]) (rest := []) ⟨hx, hb, hml, hown, hg⟩ (k_X9_in l g ad me ct n (1 : Int32) (100 : Int32) hI) (va_cwS 3 hg (z_gS mm_1109 mm_1110 mm_117 mm_1111) rfl rfl rfl (by decide +kernel) ⟨Nat.le_of_ble_eq_true rfl, Nat.le_of_ble_eq_true rfl⟩) (zR.pre [.int n, .int 1, .int 100] hP hK hN) rfl rfl hl.1 rfl (lv_room (Nat.le_of_ble_eq_true rfl)) dX9_gossip_24 ⟨Nat.le_of_ble_eq_true rfl, Nat.le_of_ble_eq_true rfl⟩) (fun r45 hr45 => ?_)
          rcases hr45 with hr45 | hr45
          · skip
            obtain ⟨rfl, h46, h47⟩ := hr45
            replace h46 : (1 : Int) ≤ n.toInt := h46
            replace h47 : n.toInt ≤ (100 : Int) := h47
            refine lv_if_eq (tgt := 39) hx hb dX9_gossip_27 (by decide) (fun c48 => ?_) (fun c48 => ?_)
            · skip
              exact absurd c48 (by decide)
            · skip
              refine lv_iload hx hb dX9_gossip_30 (lv_at hl 4 rfl) ?_
              refine lv_aload_n hx hb dX9_gossip_32 rfl (lv_at hl 0 rfl) ?_
              refine va_get (D := g.1) (ci := 9) (v := .int tpd10) (C := RX9) (T := TX9) (N := 47) hx hb hg inG9 hown hK hP 0 (zw_at (by omega) hs5) rfl 16 (by decide) (hg _ mm_974) (fun _ h9 => h9) rfl dX9_gossip_33 ?_
              refine lv_icmp_le (tgt := 41) hx hb dX9_gossip_36 (by decide) (fun c49 => ?_) (fun c49 => ?_)
              · skip
                have c49 : n.toInt ≤ tpd10.toInt := (z_le rfl rfl).mp c49
                refine lv_aload_n hx hb dX9_gossip_41 rfl (lv_at hl 0 rfl) ?_
                refine lv_iconst (v := 0) hx hb dX9_gossip_42 (by decide) ?_
                refine va_put (D := g.1) (ci := 9) (v := .int 0) (ty := .int) (C := RX9) (T := TX9) (N := 47) hx hb hg inG9 tyX9 tyX9_ok nmX9 hown hK hP hD hS 0 (zw_at (by omega) hs5) rfl 17 (by decide) (hg _ mm_975) (fun _ h9 => h9) rfl (by decide +kernel) rfl rfl (Nat.le_of_ble_eq_true rfl) dX9_gossip_43 (fun H locs hP hD hS => ?_)
                have hP : zP g ((zw 32 ad ct).set 0 (ad 0, .inr (9, [.int me, .ref (ad 1), .ref (ad 2), .ref (ad 3), .ref (ad 4), .int bks6, .int lks7, .int gos8, .int shn9, .ref (ad 5), .ref (ad 6), .ref (ad 7), .ref (ad 8), .ref (ad 9), .ref (ad 10), .ref (ad 11), .int tpd10, .int 0, .int ln012, .int flt13, .int opn14, .int cmy15, .int wtg16, .int nm017, .ref (ad 12), .ref (ad 13), .ref (ad 14), .ref (ad 15), .ref (ad 16), .ref (ad 17), .ref (ad 18), .ref (ad 19), .ref (ad 20), .ref (ad 21), .ref (ad 22), .ref (ad 23), .ref (ad 24), .ref (ad 25), .ref (ad 26), .ref (ad 27), .int mst18, .int sus19, .ref (ad 28), .ref (ad 29), .ref (ad 30), .ref (ad 31), .int cut20]))) H := hP
                have hD : va_D A ((zw 32 ad ct).set 0 (ad 0, .inr (9, [.int me, .ref (ad 1), .ref (ad 2), .ref (ad 3), .ref (ad 4), .int bks6, .int lks7, .int gos8, .int shn9, .ref (ad 5), .ref (ad 6), .ref (ad 7), .ref (ad 8), .ref (ad 9), .ref (ad 10), .ref (ad 11), .int tpd10, .int 0, .int ln012, .int flt13, .int opn14, .int cmy15, .int wtg16, .int nm017, .ref (ad 12), .ref (ad 13), .ref (ad 14), .ref (ad 15), .ref (ad 16), .ref (ad 17), .ref (ad 18), .ref (ad 19), .ref (ad 20), .ref (ad 21), .ref (ad 22), .ref (ad 23), .ref (ad 24), .ref (ad 25), .ref (ad 26), .ref (ad 27), .int mst18, .int sus19, .ref (ad 28), .ref (ad 29), .ref (ad 30), .ref (ad 31), .int cut20]))) := hD
                rw [zw_set (by omega)] at hP hD
                obtain ⟨ct50, ec51⟩ : ∃ z : Nat → va_E, z = va_up ct 0 (.inr (9, [.int me, .ref (ad 1), .ref (ad 2), .ref (ad 3), .ref (ad 4), .int bks6, .int lks7, .int gos8, .int shn9, .ref (ad 5), .ref (ad 6), .ref (ad 7), .ref (ad 8), .ref (ad 9), .ref (ad 10), .ref (ad 11), .int tpd10, .int 0, .int ln012, .int flt13, .int opn14, .int cmy15, .int wtg16, .int nm017, .ref (ad 12), .ref (ad 13), .ref (ad 14), .ref (ad 15), .ref (ad 16), .ref (ad 17), .ref (ad 18), .ref (ad 19), .ref (ad 20), .ref (ad 21), .ref (ad 22), .ref (ad 23), .ref (ad 24), .ref (ad 25), .ref (ad 26), .ref (ad 27), .int mst18, .int sus19, .ref (ad 28), .ref (ad 29), .ref (ad 30), .ref (ad 31), .int cut20])) := ⟨_, rfl⟩
                rw [← ec51] at hP hD
                have hI : IR g ad me ct50 := by rw [ec51]; exact upR hI (by decide) (i9_0 ⟨(bks6 : Int32), (lks7 : Int32), (gos8 : Int32), (shn9 : Int32), (tpd10 : Int32), (0 : Int32), (ln012 : Int32), (flt13 : Int32), (opn14 : Int32), (cmy15 : Int32), (wtg16 : Int32), (nm017 : Int32), (mst18 : Int32), (sus19 : Int32), (cut20 : Int32), (by first | omega | decide), (by first | omega | decide), (by first | omega | decide), (by first | omega | decide), (by first | omega | decide), (by first | omega | decide), (by first | omega | decide), (by first | omega | decide), (by first | omega | decide), (by first | omega | decide), (by first | omega | decide), (by first | omega | decide), (by first | omega | decide), (by first | omega | decide), (by first | omega | decide), (by first | omega | decide), (by first | omega | decide), (by first | omega | decide), (by first | omega | decide), (by first | omega | decide), rfl⟩)
                have hs52 : ct50 0 = .inr (9, [.int me, .ref (ad 1), .ref (ad 2), .ref (ad 3), .ref (ad 4), .int bks6, .int lks7, .int gos8, .int shn9, .ref (ad 5), .ref (ad 6), .ref (ad 7), .ref (ad 8), .ref (ad 9), .ref (ad 10), .ref (ad 11), .int tpd10, .int 0, .int ln012, .int flt13, .int opn14, .int cmy15, .int wtg16, .int nm017, .ref (ad 12), .ref (ad 13), .ref (ad 14), .ref (ad 15), .ref (ad 16), .ref (ad 17), .ref (ad 18), .ref (ad 19), .ref (ad 20), .ref (ad 21), .ref (ad 22), .ref (ad 23), .ref (ad 24), .ref (ad 25), .ref (ad 26), .ref (ad 27), .int mst18, .int sus19, .ref (ad 28), .ref (ad 29), .ref (ad 30), .ref (ad 31), .int cut20]) := by rw [ec51]; exact va_up_self _ _ _
                have z17_hs52 : zfi 17 (ct50 0) = (0 : Int32).toInt := by rw [hs52]; rfl
                have z18_hs52 : zfi 18 (ct50 0) = (ln012 : Int32).toInt := by rw [hs52]; rfl
                have z21_hs52 : zfi 21 (ct50 0) = (cmy15 : Int32).toInt := by rw [hs52]; rfl
                refine lv_aload_n hx hb dX9_gossip_46 rfl (lv_at hl 0 rfl) ?_
                refine lv_iload hx hb dX9_gossip_47 (lv_at hl 4 rfl) ?_
                refine va_put (D := g.1) (ci := 9) (v := .int n) (ty := .int) (C := RX9) (T := TX9) (N := 47) hx hb hg inG9 tyX9 tyX9_ok nmX9 hown hK hP hD hS 0 (zw_at (by omega) hs52) rfl 18 (by decide) (hg _ mm_976) (fun _ h9 => h9) rfl (by decide +kernel) rfl rfl (Nat.le_of_ble_eq_true rfl) dX9_gossip_49 (fun H locs hP hD hS => ?_)
                have hP : zP g ((zw 32 ad ct50).set 0 (ad 0, .inr (9, [.int me, .ref (ad 1), .ref (ad 2), .ref (ad 3), .ref (ad 4), .int bks6, .int lks7, .int gos8, .int shn9, .ref (ad 5), .ref (ad 6), .ref (ad 7), .ref (ad 8), .ref (ad 9), .ref (ad 10), .ref (ad 11), .int tpd10, .int 0, .int n, .int flt13, .int opn14, .int cmy15, .int wtg16, .int nm017, .ref (ad 12), .ref (ad 13), .ref (ad 14), .ref (ad 15), .ref (ad 16), .ref (ad 17), .ref (ad 18), .ref (ad 19), .ref (ad 20), .ref (ad 21), .ref (ad 22), .ref (ad 23), .ref (ad 24), .ref (ad 25), .ref (ad 26), .ref (ad 27), .int mst18, .int sus19, .ref (ad 28), .ref (ad 29), .ref (ad 30), .ref (ad 31), .int cut20]))) H := hP
                have hD : va_D A ((zw 32 ad ct50).set 0 (ad 0, .inr (9, [.int me, .ref (ad 1), .ref (ad 2), .ref (ad 3), .ref (ad 4), .int bks6, .int lks7, .int gos8, .int shn9, .ref (ad 5), .ref (ad 6), .ref (ad 7), .ref (ad 8), .ref (ad 9), .ref (ad 10), .ref (ad 11), .int tpd10, .int 0, .int n, .int flt13, .int opn14, .int cmy15, .int wtg16, .int nm017, .ref (ad 12), .ref (ad 13), .ref (ad 14), .ref (ad 15), .ref (ad 16), .ref (ad 17), .ref (ad 18), .ref (ad 19), .ref (ad 20), .ref (ad 21), .ref (ad 22), .ref (ad 23), .ref (ad 24), .ref (ad 25), .ref (ad 26), .ref (ad 27), .int mst18, .int sus19, .ref (ad 28), .ref (ad 29), .ref (ad 30), .ref (ad 31), .int cut20]))) := hD
                rw [zw_set (by omega)] at hP hD
                obtain ⟨ct53, ec54⟩ : ∃ z : Nat → va_E, z = va_up ct50 0 (.inr (9, [.int me, .ref (ad 1), .ref (ad 2), .ref (ad 3), .ref (ad 4), .int bks6, .int lks7, .int gos8, .int shn9, .ref (ad 5), .ref (ad 6), .ref (ad 7), .ref (ad 8), .ref (ad 9), .ref (ad 10), .ref (ad 11), .int tpd10, .int 0, .int n, .int flt13, .int opn14, .int cmy15, .int wtg16, .int nm017, .ref (ad 12), .ref (ad 13), .ref (ad 14), .ref (ad 15), .ref (ad 16), .ref (ad 17), .ref (ad 18), .ref (ad 19), .ref (ad 20), .ref (ad 21), .ref (ad 22), .ref (ad 23), .ref (ad 24), .ref (ad 25), .ref (ad 26), .ref (ad 27), .int mst18, .int sus19, .ref (ad 28), .ref (ad 29), .ref (ad 30), .ref (ad 31), .int cut20])) := ⟨_, rfl⟩
                rw [← ec54] at hP hD
                have hI : IR g ad me ct53 := by rw [ec54]; exact upR hI (by decide) (i9_0 ⟨(bks6 : Int32), (lks7 : Int32), (gos8 : Int32), (shn9 : Int32), (tpd10 : Int32), (0 : Int32), (n : Int32), (flt13 : Int32), (opn14 : Int32), (cmy15 : Int32), (wtg16 : Int32), (nm017 : Int32), (mst18 : Int32), (sus19 : Int32), (cut20 : Int32), (by first | omega | decide), (by first | omega | decide), (by first | omega | decide), (by first | omega | decide), (by first | omega | decide), (by first | omega | decide), (by first | omega | decide), (by first | omega | decide), (by first | omega | decide), (by first | omega | decide), (by first | omega | decide), (by first | omega | decide), (by first | omega | decide), (by first | omega | decide), (by first | omega | decide), (by first | omega | decide), (by first | omega | decide), (by first | omega | decide), (by first | omega | decide), (by first | omega | decide), rfl⟩)
                have hs55 : ct53 0 = .inr (9, [.int me, .ref (ad 1), .ref (ad 2), .ref (ad 3), .ref (ad 4), .int bks6, .int lks7, .int gos8, .int shn9, .ref (ad 5), .ref (ad 6), .ref (ad 7), .ref (ad 8), .ref (ad 9), .ref (ad 10), .ref (ad 11), .int tpd10, .int 0, .int n, .int flt13, .int opn14, .int cmy15, .int wtg16, .int nm017, .ref (ad 12), .ref (ad 13), .ref (ad 14), .ref (ad 15), .ref (ad 16), .ref (ad 17), .ref (ad 18), .ref (ad 19), .ref (ad 20), .ref (ad 21), .ref (ad 22), .ref (ad 23), .ref (ad 24), .ref (ad 25), .ref (ad 26), .ref (ad 27), .int mst18, .int sus19, .ref (ad 28), .ref (ad 29), .ref (ad 30), .ref (ad 31), .int cut20]) := by rw [ec54]; exact va_up_self _ _ _
                have z17_hs55 : zfi 17 (ct53 0) = (0 : Int32).toInt := by rw [hs55]; rfl
                have z18_hs55 : zfi 18 (ct53 0) = (n : Int32).toInt := by rw [hs55]; rfl
                have z21_hs55 : zfi 21 (ct53 0) = (cmy15 : Int32).toInt := by rw [hs55]; rfl
                refine lv_aload_n hx hb dX9_gossip_52 rfl (lv_at hl 0 rfl) ?_
                refine lv_iconst (v := 0) hx hb dX9_gossip_53 (by decide) ?_
                refine va_put (D := g.1) (ci := 9) (v := .int 0) (ty := .int) (C := RX9) (T := TX9) (N := 47) hx hb hg inG9 tyX9 tyX9_ok nmX9 hown hK hP hD hS 0 (zw_at (by omega) hs55) rfl 21 (by decide) (hg _ mm_979) (fun _ h9 => h9) rfl (by decide +kernel) rfl rfl (Nat.le_of_ble_eq_true rfl) dX9_gossip_54 (fun H locs hP hD hS => ?_)
                have hP : zP g ((zw 32 ad ct53).set 0 (ad 0, .inr (9, [.int me, .ref (ad 1), .ref (ad 2), .ref (ad 3), .ref (ad 4), .int bks6, .int lks7, .int gos8, .int shn9, .ref (ad 5), .ref (ad 6), .ref (ad 7), .ref (ad 8), .ref (ad 9), .ref (ad 10), .ref (ad 11), .int tpd10, .int 0, .int n, .int flt13, .int opn14, .int 0, .int wtg16, .int nm017, .ref (ad 12), .ref (ad 13), .ref (ad 14), .ref (ad 15), .ref (ad 16), .ref (ad 17), .ref (ad 18), .ref (ad 19), .ref (ad 20), .ref (ad 21), .ref (ad 22), .ref (ad 23), .ref (ad 24), .ref (ad 25), .ref (ad 26), .ref (ad 27), .int mst18, .int sus19, .ref (ad 28), .ref (ad 29), .ref (ad 30), .ref (ad 31), .int cut20]))) H := hP
                have hD : va_D A ((zw 32 ad ct53).set 0 (ad 0, .inr (9, [.int me, .ref (ad 1), .ref (ad 2), .ref (ad 3), .ref (ad 4), .int bks6, .int lks7, .int gos8, .int shn9, .ref (ad 5), .ref (ad 6), .ref (ad 7), .ref (ad 8), .ref (ad 9), .ref (ad 10), .ref (ad 11), .int tpd10, .int 0, .int n, .int flt13, .int opn14, .int 0, .int wtg16, .int nm017, .ref (ad 12), .ref (ad 13), .ref (ad 14), .ref (ad 15), .ref (ad 16), .ref (ad 17), .ref (ad 18), .ref (ad 19), .ref (ad 20), .ref (ad 21), .ref (ad 22), .ref (ad 23), .ref (ad 24), .ref (ad 25), .ref (ad 26), .ref (ad 27), .int mst18, .int sus19, .ref (ad 28), .ref (ad 29), .ref (ad 30), .ref (ad 31), .int cut20]))) := hD
                rw [zw_set (by omega)] at hP hD
                obtain ⟨ct56, ec57⟩ : ∃ z : Nat → va_E, z = va_up ct53 0 (.inr (9, [.int me, .ref (ad 1), .ref (ad 2), .ref (ad 3), .ref (ad 4), .int bks6, .int lks7, .int gos8, .int shn9, .ref (ad 5), .ref (ad 6), .ref (ad 7), .ref (ad 8), .ref (ad 9), .ref (ad 10), .ref (ad 11), .int tpd10, .int 0, .int n, .int flt13, .int opn14, .int 0, .int wtg16, .int nm017, .ref (ad 12), .ref (ad 13), .ref (ad 14), .ref (ad 15), .ref (ad 16), .ref (ad 17), .ref (ad 18), .ref (ad 19), .ref (ad 20), .ref (ad 21), .ref (ad 22), .ref (ad 23), .ref (ad 24), .ref (ad 25), .ref (ad 26), .ref (ad 27), .int mst18, .int sus19, .ref (ad 28), .ref (ad 29), .ref (ad 30), .ref (ad 31), .int cut20])) := ⟨_, rfl⟩
                rw [← ec57] at hP hD
                have hI : IR g ad me ct56 := by rw [ec57]; exact upR hI (by decide) (i9_0 ⟨(bks6 : Int32), (lks7 : Int32), (gos8 : Int32), (shn9 : Int32), (tpd10 : Int32), (0 : Int32), (n : Int32), (flt13 : Int32), (opn14 : Int32), (0 : Int32), (wtg16 : Int32), (nm017 : Int32), (mst18 : Int32), (sus19 : Int32), (cut20 : Int32), (by first | omega | decide), (by first | omega | decide), (by first | omega | decide), (by first | omega | decide), (by first | omega | decide), (by first | omega | decide), (by first | omega | decide), (by first | omega | decide), (by first | omega | decide), (by first | omega | decide), (by first | omega | decide), (by first | omega | decide), (by first | omega | decide), (by first | omega | decide), (by first | omega | decide), (by first | omega | decide), (by first | omega | decide), (by first | omega | decide), (by first | omega | decide), (by first | omega | decide), rfl⟩)
                have hs58 : ct56 0 = .inr (9, [.int me, .ref (ad 1), .ref (ad 2), .ref (ad 3), .ref (ad 4), .int bks6, .int lks7, .int gos8, .int shn9, .ref (ad 5), .ref (ad 6), .ref (ad 7), .ref (ad 8), .ref (ad 9), .ref (ad 10), .ref (ad 11), .int tpd10, .int 0, .int n, .int flt13, .int opn14, .int 0, .int wtg16, .int nm017, .ref (ad 12), .ref (ad 13), .ref (ad 14), .ref (ad 15), .ref (ad 16), .ref (ad 17), .ref (ad 18), .ref (ad 19), .ref (ad 20), .ref (ad 21), .ref (ad 22), .ref (ad 23), .ref (ad 24), .ref (ad 25), .ref (ad 26), .ref (ad 27), .int mst18, .int sus19, .ref (ad 28), .ref (ad 29), .ref (ad 30), .ref (ad 31), .int cut20]) := by rw [ec57]; exact va_up_self _ _ _
                have z17_hs58 : zfi 17 (ct56 0) = (0 : Int32).toInt := by rw [hs58]; rfl
                have z18_hs58 : zfi 18 (ct56 0) = (n : Int32).toInt := by rw [hs58]; rfl
                have z21_hs58 : zfi 21 (ct56 0) = (0 : Int32).toInt := by rw [hs58]; rfl
                refine lv_aload_n hx hb dX9_gossip_57 rfl (lv_at hl 0 rfl) ?_
                have hFc := zw_free hD hS hA
                refine va_calli (va_runV (As := []) (rest := []) ⟨hx, hb, hml, hown, hg⟩ (k_X9_readsWhole l g _ ad me ct56  hI (by first | assumption | omega | decide) (by first | assumption | omega | decide) (by first | assumption | omega | decide)) (cwV 0 hg (z_gV mm_1210 mm_1212 mm_62 mm_117 mm_1213) rfl rfl rfl (by decide +kernel) ⟨Nat.le_of_ble_eq_true rfl, Nat.le_of_ble_eq_true rfl⟩) ⟨(zA.pre [.ref (ad 0)] hP hK hD hN).1, va_recv hK hP (ci := 9) (q0 := 0) rfl (zw_at (by omega) hs58), (zA.pre [.ref (ad 0)] hP hK hD hN).2⟩ rfl rfl hl.1 rfl (lv_room (Nat.le_of_ble_eq_true rfl)) dX9_gossip_58 ⟨Nat.le_of_ble_eq_true rfl, Nat.le_of_ble_eq_true rfl⟩) hS (fun q _ h => hFc q h) hFc (fun r59 u63 t H1 locs ht hvm hr59 hB hz1 hk1 hS => ?_)
                obtain ⟨ct60, hP1, hD1, hI, hk61, hk62⟩ := hB
                rw [ht] at hP1
                have hD := hD1.weaken (fun _ _ _ h => hFc _ h)
                generalize H1 = H at hP1 hS ⊢
                have hP := hP1
                refine W.widen (k := 0) (n := 0) (Nat.le_refl _) (Nat.le_refl _) ?_
                rcases hr59 with hr59 | hr59
                · skip
                  obtain ⟨rfl, h64⟩ := hr59
                  replace h64 : u63 = 1 := h64
                  have hk62 := hk62 h64
                  obtain ⟨bks66, lks67, gos68, shn69, tpd70, pl071, ln072, flt73, opn74, cmy75, wtg76, nm077, mst78, sus79, cut80, h81, h82, h83, h84, h85, h86, h87, h88, h89, h90, h91, h92, h93, h94, h95, h96, h97, h98, h99, h100, hs65⟩ := a9_0 hI.1
                  have z17_hs65 : zfi 17 (ct60 0) = pl071.toInt := by rw [hs65]; rfl
                  have z18_hs65 : zfi 18 (ct60 0) = ln072.toInt := by rw [hs65]; rfl
                  have z21_hs65 : zfi 21 (ct60 0) = cmy75.toInt := by rw [hs65]; rfl
                  obtain ⟨f102, hs101⟩ := a9_12 hI.1
                  obtain ⟨fS, CS, hk12, hk21, hCS, hcw⟩ := hk62
                  have hfS : fS = f102 := (zar_of hk12).symm.trans (zar_of hs101)
                  have hcm : cmy75.toInt = (CS : Int) := by omega
                  refine lv_istore (lv' := [(5, .int 1), (0, .ref (ad 0)), (1, .int g0), (2, .int b), (3, .int i), (4, .int n)]) hx hb dX9_gossip_61 hl (by decide) rfl (fun ls hl => ?_)
                  refine lv_aload_n hx hb dX9_gossip_63 rfl (lv_at hl 1 rfl) ?_
                  refine lv_iconst (v := 0) hx hb dX9_gossip_64 (by decide) ?_
                  refine va_put (D := g.1) (ci := 9) (v := .int 0) (ty := .int) (C := RX9) (T := TX9) (N := 47) hx hb hg inG9 tyX9 tyX9_ok nmX9 hown hK hP hD hS 0 (zw_at (by omega) hs65) rfl 16 (by decide) (hg _ mm_974) (fun _ h9 => h9) rfl (by decide +kernel) rfl rfl (Nat.le_of_ble_eq_true rfl) dX9_gossip_65 (fun H locs hP hD hS => ?_)
                  have hP : zP g ((zw 32 ad ct60).set 0 (ad 0, .inr (9, [.int me, .ref (ad 1), .ref (ad 2), .ref (ad 3), .ref (ad 4), .int bks66, .int lks67, .int gos68, .int shn69, .ref (ad 5), .ref (ad 6), .ref (ad 7), .ref (ad 8), .ref (ad 9), .ref (ad 10), .ref (ad 11), .int 0, .int pl071, .int ln072, .int flt73, .int opn74, .int cmy75, .int wtg76, .int nm077, .ref (ad 12), .ref (ad 13), .ref (ad 14), .ref (ad 15), .ref (ad 16), .ref (ad 17), .ref (ad 18), .ref (ad 19), .ref (ad 20), .ref (ad 21), .ref (ad 22), .ref (ad 23), .ref (ad 24), .ref (ad 25), .ref (ad 26), .ref (ad 27), .int mst78, .int sus79, .ref (ad 28), .ref (ad 29), .ref (ad 30), .ref (ad 31), .int cut80]))) H := hP
                  have hD : va_D A ((zw 32 ad ct60).set 0 (ad 0, .inr (9, [.int me, .ref (ad 1), .ref (ad 2), .ref (ad 3), .ref (ad 4), .int bks66, .int lks67, .int gos68, .int shn69, .ref (ad 5), .ref (ad 6), .ref (ad 7), .ref (ad 8), .ref (ad 9), .ref (ad 10), .ref (ad 11), .int 0, .int pl071, .int ln072, .int flt73, .int opn74, .int cmy75, .int wtg76, .int nm077, .ref (ad 12), .ref (ad 13), .ref (ad 14), .ref (ad 15), .ref (ad 16), .ref (ad 17), .ref (ad 18), .ref (ad 19), .ref (ad 20), .ref (ad 21), .ref (ad 22), .ref (ad 23), .ref (ad 24), .ref (ad 25), .ref (ad 26), .ref (ad 27), .int mst78, .int sus79, .ref (ad 28), .ref (ad 29), .ref (ad 30), .ref (ad 31), .int cut80]))) := hD
                  rw [zw_set (by omega)] at hP hD
                  obtain ⟨ct103, ec104⟩ : ∃ z : Nat → va_E, z = va_up ct60 0 (.inr (9, [.int me, .ref (ad 1), .ref (ad 2), .ref (ad 3), .ref (ad 4), .int bks66, .int lks67, .int gos68, .int shn69, .ref (ad 5), .ref (ad 6), .ref (ad 7), .ref (ad 8), .ref (ad 9), .ref (ad 10), .ref (ad 11), .int 0, .int pl071, .int ln072, .int flt73, .int opn74, .int cmy75, .int wtg76, .int nm077, .ref (ad 12), .ref (ad 13), .ref (ad 14), .ref (ad 15), .ref (ad 16), .ref (ad 17), .ref (ad 18), .ref (ad 19), .ref (ad 20), .ref (ad 21), .ref (ad 22), .ref (ad 23), .ref (ad 24), .ref (ad 25), .ref (ad 26), .ref (ad 27), .int mst78, .int sus79, .ref (ad 28), .ref (ad 29), .ref (ad 30), .ref (ad 31), .int cut80])) := ⟨_, rfl⟩
                  rw [← ec104] at hP hD
                  have hI : IR g ad me ct103 := by rw [ec104]; exact upR hI (by decide) (i9_0 ⟨(bks66 : Int32), (lks67 : Int32), (gos68 : Int32), (shn69 : Int32), (0 : Int32), (pl071 : Int32), (ln072 : Int32), (flt73 : Int32), (opn74 : Int32), (cmy75 : Int32), (wtg76 : Int32), (nm077 : Int32), (mst78 : Int32), (sus79 : Int32), (cut80 : Int32), (by first | omega | decide), (by first | omega | decide), (by first | omega | decide), (by first | omega | decide), (by first | omega | decide), (by first | omega | decide), (by first | omega | decide), (by first | omega | decide), (by first | omega | decide), (by first | omega | decide), (by first | omega | decide), (by first | omega | decide), (by first | omega | decide), (by first | omega | decide), (by first | omega | decide), (by first | omega | decide), (by first | omega | decide), (by first | omega | decide), (by first | omega | decide), (by first | omega | decide), rfl⟩)
                  have hs105 : ct103 12 = .inl (g.2 0, 120, .inl f102) := by rw [ec104, va_up_ne _ _ (by omega)]; exact hs101
                  have hs106 : ct103 0 = .inr (9, [.int me, .ref (ad 1), .ref (ad 2), .ref (ad 3), .ref (ad 4), .int bks66, .int lks67, .int gos68, .int shn69, .ref (ad 5), .ref (ad 6), .ref (ad 7), .ref (ad 8), .ref (ad 9), .ref (ad 10), .ref (ad 11), .int 0, .int pl071, .int ln072, .int flt73, .int opn74, .int cmy75, .int wtg76, .int nm077, .ref (ad 12), .ref (ad 13), .ref (ad 14), .ref (ad 15), .ref (ad 16), .ref (ad 17), .ref (ad 18), .ref (ad 19), .ref (ad 20), .ref (ad 21), .ref (ad 22), .ref (ad 23), .ref (ad 24), .ref (ad 25), .ref (ad 26), .ref (ad 27), .int mst78, .int sus79, .ref (ad 28), .ref (ad 29), .ref (ad 30), .ref (ad 31), .int cut80]) := by rw [ec104]; exact va_up_self _ _ _
                  have z17_hs106 : zfi 17 (ct103 0) = (pl071 : Int32).toInt := by rw [hs106]; rfl
                  have z18_hs106 : zfi 18 (ct103 0) = (ln072 : Int32).toInt := by rw [hs106]; rfl
                  have z21_hs106 : zfi 21 (ct103 0) = (cmy75 : Int32).toInt := by rw [hs106]; rfl
                  refine lv_iload hx hb dX9_gossip_68 (lv_at hl 0 rfl) ?_
                  refine lv_if_ne (tgt := 78) hx hb dX9_gossip_70 (by decide) (fun c107 => ?_) (fun c107 => ?_)
                  · skip
                    have hI : IR g ad me ct103 g0.toInt := ⟨hI.1, CI_weak hI.2⟩
                    refine lv_iconst (v := 0) hx hb dX9_gossip_78 (by decide) ?_
                    refine lv_istore (lv' := [(6, .int 0), (5, .int 1), (0, .ref (ad 0)), (1, .int g0), (2, .int b), (3, .int i), (4, .int n)]) hx hb dX9_gossip_79 hl (by decide) rfl (fun ls hl => ?_)
                    have loop81 : ∀ (n81 : Nat) (v6_81 : Int32) (ct108 : Nat → va_E) (H : Heap) (locs : List Loc) (ls : Array Slot), ((120 - v6_81.toInt : Int).toNat < n81) → (0 ≤ v6_81.toInt ∧ v6_81.toInt ≤ 120) → (∀ j : Nat, (j : Int) < v6_81.toInt → zar (ct108 14) (120 * g0.toInt.toNat + j) = fS j) → (ct108 0 = .inr (9, [.int me, .ref (ad 1), .ref (ad 2), .ref (ad 3), .ref (ad 4), .int bks66, .int lks67, .int gos68, .int shn69, .ref (ad 5), .ref (ad 6), .ref (ad 7), .ref (ad 8), .ref (ad 9), .ref (ad 10), .ref (ad 11), .int 0, .int pl071, .int ln072, .int flt73, .int opn74, .int cmy75, .int wtg76, .int nm077, .ref (ad 12), .ref (ad 13), .ref (ad 14), .ref (ad 15), .ref (ad 16), .ref (ad 17), .ref (ad 18), .ref (ad 19), .ref (ad 20), .ref (ad 21), .ref (ad 22), .ref (ad 23), .ref (ad 24), .ref (ad 25), .ref (ad 26), .ref (ad 27), .int mst78, .int sus79, .ref (ad 28), .ref (ad 29), .ref (ad 30), .ref (ad 31), .int cut80])) → (ct108 12 = .inl (g.2 0, 120, .inl f102)) → (IR g ad me ct108 g0.toInt) → zP g (zw 32 ad ct108) H → va_D A (zw 32 ad ct108) → va_S A s.heap H locs → lv_has ls 7 [(6, .int v6_81), (5, .int 1), (0, .ref (ad 0)), (1, .int g0), (2, .int b), (3, .int i), (4, .int n)] → W p l e (headSpec (zW yX9_gossip cX9_gossip 7 (some .int)) ({ frames := 7, cells := 0, slots := 0, locals := 145 })).room s m ([.ref (ad 0), .int g0, .int b, .int i, .int n] : List Value).toArray below meth c H locs 0 0 (MQ below (va_Qi (fun (r : Int32) (_ : Unit) => (True)) (fun _ t => ∃ ct2 : Nat → va_E, zP g (zw 32 ad ct2) t.heap ∧ va_D A (zw 32 ad ct2) ∧ IR g ad me ct2) A) ([.ref (ad 0), .int g0, .int b, .int i, .int n] : List Value).toArray s 0 0 A) (F0 m 81 ls []) := by
                      intro n81
                      induction n81 with
                      | zero =>
                        intro v6_81 ct108 H locs ls hn81 b6_81 j0_81 kp0_81 kp12_81 hI hP hD hS hl
                        exact absurd hn81 (Nat.not_lt_zero _)
                      | succ n81 ih81 =>
                        intro v6_81 ct108 H locs ls hn81 b6_81 j0_81 kp0_81 kp12_81 hI hP hD hS hl
                        have z17_kp0_81 : zfi 17 (ct108 0) = (pl071 : Int32).toInt := by rw [kp0_81]; rfl
                        have z18_kp0_81 : zfi 18 (ct108 0) = (ln072 : Int32).toInt := by rw [kp0_81]; rfl
                        have z21_kp0_81 : zfi 21 (ct108 0) = (cmy75 : Int32).toInt := by rw [kp0_81]; rfl
                        refine lv_iload hx hb dX9_gossip_81 (lv_at hl 0 rfl) ?_
                        refine lv_aload_n hx hb dX9_gossip_83 rfl (lv_at hl 2 rfl) ?_
                        refine va_get (D := g.1) (ci := 9) (v := .int cmy75) (C := RX9) (T := TX9) (N := 47) hx hb hg inG9 hown hK hP 0 (zw_at (by omega) kp0_81) rfl 21 (by decide) (hg _ mm_979) (fun _ h9 => h9) rfl dX9_gossip_84 ?_
                        refine lv_icmp_ge (tgt := 115) hx hb dX9_gossip_87 (by decide) (fun c109 => ?_) (fun c109 => ?_)
                        · skip
                          have c109 : cmy75.toInt ≤ v6_81.toInt := (z_le rfl rfl).mp c109
                          refine lv_aload_n hx hb dX9_gossip_115 rfl (lv_at hl 2 rfl) ?_
                          refine va_get (D := g.1) (ci := 9) (v := .ref (ad 15)) (C := RX9) (T := TX9) (N := 47) hx hb hg inG9 hown hK hP 0 (zw_at (by omega) kp0_81) rfl 27 (by decide) (hg _ mm_985) (fun _ h9 => h9) rfl dX9_gossip_116 ?_
                          refine lv_iload_n hx hb dX9_gossip_119 rfl (lv_at hl 3 rfl) ?_
                          refine lv_bipush (v := 120) hx hb dX9_gossip_120 (by decide) ?_
                          refine lv_iload_n hx hb dX9_gossip_122 rfl (lv_at hl 3 rfl) ?_
                          refine lv_imul hx hb dX9_gossip_123 ?_
                          refine lv_topi (fun x110 ex110 => ?_)
                          have tx110 : x110.toInt = 120 * g0.toInt := by rw [ex110]; exact z_mul (by decide : (120 : Int32).toInt = 120) rfl (by omega) (by omega)
                          refine lv_aload_n hx hb dX9_gossip_124 rfl (lv_at hl 2 rfl) ?_
                          refine va_get (D := g.1) (ci := 9) (v := .int cmy75) (C := RX9) (T := TX9) (N := 47) hx hb hg inG9 hown hK hP 0 (zw_at (by omega) kp0_81) rfl 21 (by decide) (hg _ mm_979) (fun _ h9 => h9) rfl dX9_gossip_125 ?_
                          refine lv_iadd hx hb dX9_gossip_128 ?_
                          refine lv_topi (fun x111 ex111 => ?_)
                          have tx111 : x111.toInt = x110.toInt + cmy75.toInt := by rw [ex111]; exact z_add rfl rfl (by omega) (by omega)
                          obtain ⟨f113, hs112⟩ := a9_14 hI.1
                          obtain ⟨f115, hs114⟩ := a9_15 hI.1
                          refine va_iast hx hb hK hP hD hS 15 0 (zw_at (by omega) hs114) rfl (z_in rfl (by omega) (by omega)) dX9_gossip_129 (fun H locs hP hD hS => ?_)
                          have hP : zP g ((zw 32 ad ct108).set 15 (ad 15, .inl (g.2 0, 8, .inl (upd f115 (Int32.toNatClampNeg g0) x111)))) H := hP
                          have hD : va_D A ((zw 32 ad ct108).set 15 (ad 15, .inl (g.2 0, 8, .inl (upd f115 (Int32.toNatClampNeg g0) x111)))) := hD
                          rw [zw_set (by omega)] at hP hD
                          obtain ⟨ct117, ec118⟩ : ∃ z : Nat → va_E, z = va_up ct108 15 (.inl (g.2 0, 8, .inl (upd f115 (Int32.toNatClampNeg g0) x111))) := ⟨_, rfl⟩
                          rw [← ec118] at hP hD
                          have hI : IR g ad me ct117 := by rw [ec118]; exact upR15 (sk := g0.toInt.toNat) (m := CS) (by rw [Int.toNat_of_nonneg (by omega)]; exact hI) hs112 hs114 (i := Int32.toNatClampNeg g0) (z_cl (by omega)) rfl (by omega) (by omega) (cwf_ext (c := fS) (fun i hi => by rw [← zar_of hs112]; exact j0_81 i (by omega)) hcw) (i9_15 ⟨_, rfl⟩)
                          have hs119 : ct117 0 = .inr (9, [.int me, .ref (ad 1), .ref (ad 2), .ref (ad 3), .ref (ad 4), .int bks66, .int lks67, .int gos68, .int shn69, .ref (ad 5), .ref (ad 6), .ref (ad 7), .ref (ad 8), .ref (ad 9), .ref (ad 10), .ref (ad 11), .int 0, .int pl071, .int ln072, .int flt73, .int opn74, .int cmy75, .int wtg76, .int nm077, .ref (ad 12), .ref (ad 13), .ref (ad 14), .ref (ad 15), .ref (ad 16), .ref (ad 17), .ref (ad 18), .ref (ad 19), .ref (ad 20), .ref (ad 21), .ref (ad 22), .ref (ad 23), .ref (ad 24), .ref (ad 25), .ref (ad 26), .ref (ad 27), .int mst78, .int sus79, .ref (ad 28), .ref (ad 29), .ref (ad 30), .ref (ad 31), .int cut80]) := by rw [ec118, va_up_ne _ _ (by omega)]; exact kp0_81
                          have hs120 : ct117 12 = .inl (g.2 0, 120, .inl f102) := by rw [ec118, va_up_ne _ _ (by omega)]; exact kp12_81
                          have hs121 : ct117 14 = .inl (g.2 0, 960, .inl f113) := by rw [ec118, va_up_ne _ _ (by omega)]; exact hs112
                          have hs122 : ct117 15 = .inl (g.2 0, 8, .inl (upd f115 (Int32.toNatClampNeg g0) x111)) := by rw [ec118]; exact va_up_self _ _ _
                          have z17_hs119 : zfi 17 (ct117 0) = (pl071 : Int32).toInt := by rw [hs119]; rfl
                          have z18_hs119 : zfi 18 (ct117 0) = (ln072 : Int32).toInt := by rw [hs119]; rfl
                          have z21_hs119 : zfi 21 (ct117 0) = (cmy75 : Int32).toInt := by rw [hs119]; rfl
                          refine lv_aload_n hx hb dX9_gossip_130 rfl (lv_at hl 2 rfl) ?_
                          refine va_get (D := g.1) (ci := 9) (v := .ref (ad 16)) (C := RX9) (T := TX9) (N := 47) hx hb hg inG9 hown hK hP 0 (zw_at (by omega) hs119) rfl 28 (by decide) (hg _ mm_986) (fun _ h9 => h9) rfl dX9_gossip_131 ?_
                          refine lv_iload_n hx hb dX9_gossip_134 rfl (lv_at hl 3 rfl) ?_
                          refine lv_iload_n hx hb dX9_gossip_135 rfl (lv_at hl 4 rfl) ?_
                          refine lv_iload_n hx hb dX9_gossip_136 rfl (lv_at hl 5 rfl) ?_
                          refine zc_i (va_runS (As := [.int b, .int i]) (rest := [.int g0, .ref (ad 16)]) ⟨hx, hb, hml, hown, hg⟩ (k_X9_at l g ad me ct117 b i (by first | omega | decide) (by first | omega | decide) hI) (va_cwS 2 hg (z_gS mm_1159 mm_1160 mm_117 mm_1161) rfl rfl rfl (by decide +kernel) ⟨Nat.le_of_ble_eq_true rfl, Nat.le_of_ble_eq_true rfl⟩) (zR.pre [.int b, .int i] hP hK hN) rfl rfl hl.1 rfl (lv_room (Nat.le_of_ble_eq_true rfl)) dX9_gossip_137 ⟨Nat.le_of_ble_eq_true rfl, Nat.le_of_ble_eq_true rfl⟩) (fun r123 hr123 => ?_)
                          have hr123_0 := hr123
                          have hr123_0 : r123.toInt = 8 * b.toInt + i.toInt := hr123_0
                          obtain ⟨f125, hp126, hs124⟩ := a9_16 hI.1
                          refine va_iast hx hb hK hP hD hS 16 0 (zw_at (by omega) hs124) rfl (z_in rfl (by omega) (by omega)) dX9_gossip_140 (fun H locs hP hD hS => ?_)
                          have hp128 : ∀ j : Nat, j < 8 → (fun x : Int32 => 0 ≤ x.toInt ∧ x.toInt ≤ 31) ((upd f125 (Int32.toNatClampNeg g0) r123) j) := fun j hj => by
                            unfold upd
                            by_cases q : j = Int32.toNatClampNeg g0
                            · rw [if_pos q]; exact (show 0 ≤ (r123 : Int32).toInt ∧ (r123 : Int32).toInt ≤ 31 from (by first | omega | decide))
                            · rw [if_neg q]; exact hp126 j hj
                          have hP : zP g ((zw 32 ad ct117).set 16 (ad 16, .inl (g.2 0, 8, .inl (upd f125 (Int32.toNatClampNeg g0) r123)))) H := hP
                          have hD : va_D A ((zw 32 ad ct117).set 16 (ad 16, .inl (g.2 0, 8, .inl (upd f125 (Int32.toNatClampNeg g0) r123)))) := hD
                          rw [zw_set (by omega)] at hP hD
                          obtain ⟨ct129, ec130⟩ : ∃ z : Nat → va_E, z = va_up ct117 16 (.inl (g.2 0, 8, .inl (upd f125 (Int32.toNatClampNeg g0) r123))) := ⟨_, rfl⟩
                          rw [← ec130] at hP hD
                          have hI : IR g ad me ct129 := by rw [ec130]; exact upR hI (by decide) (i9_16 ⟨_, hp128, rfl⟩)
                          have hs131 : ct129 0 = .inr (9, [.int me, .ref (ad 1), .ref (ad 2), .ref (ad 3), .ref (ad 4), .int bks66, .int lks67, .int gos68, .int shn69, .ref (ad 5), .ref (ad 6), .ref (ad 7), .ref (ad 8), .ref (ad 9), .ref (ad 10), .ref (ad 11), .int 0, .int pl071, .int ln072, .int flt73, .int opn74, .int cmy75, .int wtg76, .int nm077, .ref (ad 12), .ref (ad 13), .ref (ad 14), .ref (ad 15), .ref (ad 16), .ref (ad 17), .ref (ad 18), .ref (ad 19), .ref (ad 20), .ref (ad 21), .ref (ad 22), .ref (ad 23), .ref (ad 24), .ref (ad 25), .ref (ad 26), .ref (ad 27), .int mst78, .int sus79, .ref (ad 28), .ref (ad 29), .ref (ad 30), .ref (ad 31), .int cut80]) := by rw [ec130, va_up_ne _ _ (by omega)]; exact hs119
                          have hs132 : ct129 12 = .inl (g.2 0, 120, .inl f102) := by rw [ec130, va_up_ne _ _ (by omega)]; exact hs120
                          have hs133 : ct129 14 = .inl (g.2 0, 960, .inl f113) := by rw [ec130, va_up_ne _ _ (by omega)]; exact hs121
                          have hs134 : ct129 15 = .inl (g.2 0, 8, .inl (upd f115 (Int32.toNatClampNeg g0) x111)) := by rw [ec130, va_up_ne _ _ (by omega)]; exact hs122
                          have hs135 : ct129 16 = .inl (g.2 0, 8, .inl (upd f125 (Int32.toNatClampNeg g0) r123)) := by rw [ec130]; exact va_up_self _ _ _
                          have z17_hs131 : zfi 17 (ct129 0) = (pl071 : Int32).toInt := by rw [hs131]; rfl
                          have z18_hs131 : zfi 18 (ct129 0) = (ln072 : Int32).toInt := by rw [hs131]; rfl
                          have z21_hs131 : zfi 21 (ct129 0) = (cmy75 : Int32).toInt := by rw [hs131]; rfl
                          refine lv_aload_n hx hb dX9_gossip_141 rfl (lv_at hl 2 rfl) ?_
                          refine lv_aload_n hx hb dX9_gossip_142 rfl (lv_at hl 2 rfl) ?_
                          refine va_get (D := g.1) (ci := 9) (v := .int gos68) (C := RX9) (T := TX9) (N := 47) hx hb hg inG9 hown hK hP 0 (zw_at (by omega) hs131) rfl 7 (by decide) (hg _ mm_965) (fun _ h9 => h9) rfl dX9_gossip_143 ?_
                          refine lv_iconst (v := 1) hx hb dX9_gossip_146 (by decide) ?_
                          refine lv_iload_n hx hb dX9_gossip_147 rfl (lv_at hl 3 rfl) ?_
                          refine lv_ishl hx hb dX9_gossip_148 ?_
                          refine lv_topi (fun x136 ex136 => ?_)
                          have tx136 := z_shl1 (y := g0) rfl (by omega) (k := 7) (by decide) (by omega)
                          rw [← ex136] at tx136
                          refine lv_ior hx hb dX9_gossip_149 ?_
                          refine lv_topi (fun x137 ex137 => ?_)
                          have tx137 := z_or (x := gos68) (y := x136) rfl rfl (k := 8) (N := 256) (by decide) (by decide) (by omega) (by omega) (by omega) (by omega)
                          rw [← ex137] at tx137
                          refine va_put (D := g.1) (ci := 9) (v := .int x137) (ty := .int) (C := RX9) (T := TX9) (N := 47) hx hb hg inG9 tyX9 tyX9_ok nmX9 hown hK hP hD hS 0 (zw_at (by omega) hs131) rfl 7 (by decide) (hg _ mm_965) (fun _ h9 => h9) rfl (by decide +kernel) rfl rfl (Nat.le_of_ble_eq_true rfl) dX9_gossip_150 (fun H locs hP hD hS => ?_)
                          have hP : zP g ((zw 32 ad ct129).set 0 (ad 0, .inr (9, [.int me, .ref (ad 1), .ref (ad 2), .ref (ad 3), .ref (ad 4), .int bks66, .int lks67, .int x137, .int shn69, .ref (ad 5), .ref (ad 6), .ref (ad 7), .ref (ad 8), .ref (ad 9), .ref (ad 10), .ref (ad 11), .int 0, .int pl071, .int ln072, .int flt73, .int opn74, .int cmy75, .int wtg76, .int nm077, .ref (ad 12), .ref (ad 13), .ref (ad 14), .ref (ad 15), .ref (ad 16), .ref (ad 17), .ref (ad 18), .ref (ad 19), .ref (ad 20), .ref (ad 21), .ref (ad 22), .ref (ad 23), .ref (ad 24), .ref (ad 25), .ref (ad 26), .ref (ad 27), .int mst78, .int sus79, .ref (ad 28), .ref (ad 29), .ref (ad 30), .ref (ad 31), .int cut80]))) H := hP
                          have hD : va_D A ((zw 32 ad ct129).set 0 (ad 0, .inr (9, [.int me, .ref (ad 1), .ref (ad 2), .ref (ad 3), .ref (ad 4), .int bks66, .int lks67, .int x137, .int shn69, .ref (ad 5), .ref (ad 6), .ref (ad 7), .ref (ad 8), .ref (ad 9), .ref (ad 10), .ref (ad 11), .int 0, .int pl071, .int ln072, .int flt73, .int opn74, .int cmy75, .int wtg76, .int nm077, .ref (ad 12), .ref (ad 13), .ref (ad 14), .ref (ad 15), .ref (ad 16), .ref (ad 17), .ref (ad 18), .ref (ad 19), .ref (ad 20), .ref (ad 21), .ref (ad 22), .ref (ad 23), .ref (ad 24), .ref (ad 25), .ref (ad 26), .ref (ad 27), .int mst78, .int sus79, .ref (ad 28), .ref (ad 29), .ref (ad 30), .ref (ad 31), .int cut80]))) := hD
                          rw [zw_set (by omega)] at hP hD
                          obtain ⟨ct138, ec139⟩ : ∃ z : Nat → va_E, z = va_up ct129 0 (.inr (9, [.int me, .ref (ad 1), .ref (ad 2), .ref (ad 3), .ref (ad 4), .int bks66, .int lks67, .int x137, .int shn69, .ref (ad 5), .ref (ad 6), .ref (ad 7), .ref (ad 8), .ref (ad 9), .ref (ad 10), .ref (ad 11), .int 0, .int pl071, .int ln072, .int flt73, .int opn74, .int cmy75, .int wtg76, .int nm077, .ref (ad 12), .ref (ad 13), .ref (ad 14), .ref (ad 15), .ref (ad 16), .ref (ad 17), .ref (ad 18), .ref (ad 19), .ref (ad 20), .ref (ad 21), .ref (ad 22), .ref (ad 23), .ref (ad 24), .ref (ad 25), .ref (ad 26), .ref (ad 27), .int mst78, .int sus79, .ref (ad 28), .ref (ad 29), .ref (ad 30), .ref (ad 31), .int cut80])) := ⟨_, rfl⟩
                          rw [← ec139] at hP hD
                          have hI : IR g ad me ct138 := by rw [ec139]; exact upR hI (by decide) (i9_0 ⟨(bks66 : Int32), (lks67 : Int32), (x137 : Int32), (shn69 : Int32), (0 : Int32), (pl071 : Int32), (ln072 : Int32), (flt73 : Int32), (opn74 : Int32), (cmy75 : Int32), (wtg76 : Int32), (nm077 : Int32), (mst78 : Int32), (sus79 : Int32), (cut80 : Int32), (by first | omega | decide), (by first | omega | decide), (by first | omega | decide), (by first | omega | decide), (by first | omega | decide), (by first | omega | decide), (by first | omega | decide), (by first | omega | decide), (by first | omega | decide), (by first | omega | decide), (by first | omega | decide), (by first | omega | decide), (by first | omega | decide), (by first | omega | decide), (by first | omega | decide), (by first | omega | decide), (by first | omega | decide), (by first | omega | decide), (by first | omega | decide), (by first | omega | decide), rfl⟩)
                          have hs140 : ct138 12 = .inl (g.2 0, 120, .inl f102) := by rw [ec139, va_up_ne _ _ (by omega)]; exact hs132
                          have hs141 : ct138 14 = .inl (g.2 0, 960, .inl f113) := by rw [ec139, va_up_ne _ _ (by omega)]; exact hs133
                          have hs142 : ct138 15 = .inl (g.2 0, 8, .inl (upd f115 (Int32.toNatClampNeg g0) x111)) := by rw [ec139, va_up_ne _ _ (by omega)]; exact hs134
                          have hs143 : ct138 16 = .inl (g.2 0, 8, .inl (upd f125 (Int32.toNatClampNeg g0) r123)) := by rw [ec139, va_up_ne _ _ (by omega)]; exact hs135
                          have hs144 : ct138 0 = .inr (9, [.int me, .ref (ad 1), .ref (ad 2), .ref (ad 3), .ref (ad 4), .int bks66, .int lks67, .int x137, .int shn69, .ref (ad 5), .ref (ad 6), .ref (ad 7), .ref (ad 8), .ref (ad 9), .ref (ad 10), .ref (ad 11), .int 0, .int pl071, .int ln072, .int flt73, .int opn74, .int cmy75, .int wtg76, .int nm077, .ref (ad 12), .ref (ad 13), .ref (ad 14), .ref (ad 15), .ref (ad 16), .ref (ad 17), .ref (ad 18), .ref (ad 19), .ref (ad 20), .ref (ad 21), .ref (ad 22), .ref (ad 23), .ref (ad 24), .ref (ad 25), .ref (ad 26), .ref (ad 27), .int mst78, .int sus79, .ref (ad 28), .ref (ad 29), .ref (ad 30), .ref (ad 31), .int cut80]) := by rw [ec139]; exact va_up_self _ _ _
                          have z17_hs144 : zfi 17 (ct138 0) = (pl071 : Int32).toInt := by rw [hs144]; rfl
                          have z18_hs144 : zfi 18 (ct138 0) = (ln072 : Int32).toInt := by rw [hs144]; rfl
                          have z21_hs144 : zfi 21 (ct138 0) = (cmy75 : Int32).toInt := by rw [hs144]; rfl
                          refine lv_iconst (v := 1) hx hb dX9_gossip_153 (by decide) ?_
                          have q145 : (1 : Int32).toInt = 1 := by decide
                          exact W.iret (v := 1) hx hb hr (fun t ht hW => ⟨⟨1, (), rfl, trivial, ct138, by rw [ht]; exact hP, hD, hI⟩, hS.F ht⟩) hS.2.2 dX9_gossip_154
                        · skip
                          have c109 : ¬ (cmy75.toInt ≤ v6_81.toInt) := fun q => c109 ((z_le rfl rfl).mpr q)
                          refine lv_aload_n hx hb dX9_gossip_90 rfl (lv_at hl 2 rfl) ?_
                          refine va_get (D := g.1) (ci := 9) (v := .ref (ad 14)) (C := RX9) (T := TX9) (N := 47) hx hb hg inG9 hown hK hP 0 (zw_at (by omega) kp0_81) rfl 26 (by decide) (hg _ mm_984) (fun _ h9 => h9) rfl dX9_gossip_91 ?_
                          refine lv_bipush (v := 120) hx hb dX9_gossip_94 (by decide) ?_
                          refine lv_iload_n hx hb dX9_gossip_96 rfl (lv_at hl 3 rfl) ?_
                          refine lv_imul hx hb dX9_gossip_97 ?_
                          refine lv_topi (fun x146 ex146 => ?_)
                          have tx146 : x146.toInt = 120 * g0.toInt := by rw [ex146]; exact z_mul (by decide : (120 : Int32).toInt = 120) rfl (by omega) (by omega)
                          refine lv_iload hx hb dX9_gossip_98 (lv_at hl 0 rfl) ?_
                          refine lv_iadd hx hb dX9_gossip_100 ?_
                          refine lv_topi (fun x147 ex147 => ?_)
                          have tx147 : x147.toInt = x146.toInt + v6_81.toInt := by rw [ex147]; exact z_add rfl rfl (by omega) (by omega)
                          refine lv_aload_n hx hb dX9_gossip_101 rfl (lv_at hl 2 rfl) ?_
                          refine va_get (D := g.1) (ci := 9) (v := .ref (ad 12)) (C := RX9) (T := TX9) (N := 47) hx hb hg inG9 hown hK hP 0 (zw_at (by omega) kp0_81) rfl 24 (by decide) (hg _ mm_982) (fun _ h9 => h9) rfl dX9_gossip_102 ?_
                          refine lv_iload hx hb dX9_gossip_105 (lv_at hl 0 rfl) ?_
                          refine va_iald hx hb hK hP 12 0 (zw_at (by omega) kp12_81) rfl (z_in rfl (by omega) (by omega)) dX9_gossip_107 ?_
                          refine lv_topi (fun y148 ey148 => ?_)
                          obtain ⟨f150, hs149⟩ := a9_14 hI.1
                          refine va_iast hx hb hK hP hD hS 14 0 (zw_at (by omega) hs149) rfl (z_in rfl (by omega) (by omega)) dX9_gossip_108 (fun H locs hP hD hS => ?_)
                          have hP : zP g ((zw 32 ad ct108).set 14 (ad 14, .inl (g.2 0, 960, .inl (upd f150 (Int32.toNatClampNeg x147) y148)))) H := hP
                          have hD : va_D A ((zw 32 ad ct108).set 14 (ad 14, .inl (g.2 0, 960, .inl (upd f150 (Int32.toNatClampNeg x147) y148)))) := hD
                          rw [zw_set (by omega)] at hP hD
                          obtain ⟨ct152, ec153⟩ : ∃ z : Nat → va_E, z = va_up ct108 14 (.inl (g.2 0, 960, .inl (upd f150 (Int32.toNatClampNeg x147) y148))) := ⟨_, rfl⟩
                          rw [← ec153] at hP hD
                          have hI : IR g ad me ct152 g0.toInt := by rw [ec153]; exact upR14 hI hs149 rfl (by have := z_clI (x := x147) (by omega); omega) (by have := z_clI (x := x147) (by omega); omega) (i9_14 ⟨_, rfl⟩)
                          have hs154 : ct152 0 = .inr (9, [.int me, .ref (ad 1), .ref (ad 2), .ref (ad 3), .ref (ad 4), .int bks66, .int lks67, .int gos68, .int shn69, .ref (ad 5), .ref (ad 6), .ref (ad 7), .ref (ad 8), .ref (ad 9), .ref (ad 10), .ref (ad 11), .int 0, .int pl071, .int ln072, .int flt73, .int opn74, .int cmy75, .int wtg76, .int nm077, .ref (ad 12), .ref (ad 13), .ref (ad 14), .ref (ad 15), .ref (ad 16), .ref (ad 17), .ref (ad 18), .ref (ad 19), .ref (ad 20), .ref (ad 21), .ref (ad 22), .ref (ad 23), .ref (ad 24), .ref (ad 25), .ref (ad 26), .ref (ad 27), .int mst78, .int sus79, .ref (ad 28), .ref (ad 29), .ref (ad 30), .ref (ad 31), .int cut80]) := by rw [ec153, va_up_ne _ _ (by omega)]; exact kp0_81
                          have hs155 : ct152 12 = .inl (g.2 0, 120, .inl f102) := by rw [ec153, va_up_ne _ _ (by omega)]; exact kp12_81
                          have hs156 : ct152 14 = .inl (g.2 0, 960, .inl (upd f150 (Int32.toNatClampNeg x147) y148)) := by rw [ec153]; exact va_up_self _ _ _
                          have z17_hs154 : zfi 17 (ct152 0) = (pl071 : Int32).toInt := by rw [hs154]; rfl
                          have z18_hs154 : zfi 18 (ct152 0) = (ln072 : Int32).toInt := by rw [hs154]; rfl
                          have z21_hs154 : zfi 21 (ct152 0) = (cmy75 : Int32).toInt := by rw [hs154]; rfl
                          have hcp : ∀ j : Nat, (j : Int) < (v6_81.toInt + 1) → zar (ct152 14) (120 * g0.toInt.toNat + j) = fS j := fun j hj => by
                            rw [zar_of hs156]
                            by_cases q : (j : Int) = v6_81.toInt
                            · rw [z_cl (x := x147) (k := 120 * g0.toInt.toNat + j) (by omega), upd_sm, ey148, hfS, z_cl (x := v6_81) (k := j) (by omega)]
                            · rw [upd_other (by have := z_clI (x := x147) (by omega); omega), ← zar_of hs149]
                              exact j0_81 j (by omega)
                          obtain ⟨x157, ex157⟩ : ∃ y : Int32, y = v6_81 + 1 := ⟨_, rfl⟩
                          have tx157 : x157.toInt = v6_81.toInt + 1 := by rw [ex157]; exact z_add rfl (by decide : (1 : Int32).toInt = 1) (by omega) (by omega)
                          refine lv_iinc (v := x157) (lv' := [(6, .int x157), (5, .int 1), (0, .ref (ad 0)), (1, .int g0), (2, .int b), (3, .int i), (4, .int n)]) hx hb dX9_gossip_109 hl (k := 0) rfl (by rw [ex157]; rfl) (by decide) rfl (fun ls hl => ?_)
                          have hcq : ∀ j : Nat, (j : Int) < x157.toInt → zar (ct152 14) (120 * g0.toInt.toNat + j) = fS j := fun j hj => hcp j (by omega)
                          refine lv_goto (tgt := 81) hx hb dX9_gossip_112 (by decide) ?_
                          exact ih81 x157 ct152 _ _ ls (by omega) (by first | assumption | omega | decide) (by first | assumption | omega | decide) hs154 hs155 hI hP hD hS (lv_sub hl [0, 1, 2, 3, 4, 5, 6] rfl)
                    have hc0 : ∀ j : Nat, (j : Int) < ((0 : Int32)).toInt → zar (ct103 14) (120 * g0.toInt.toNat + j) = fS j := fun j hj => by omega
                    exact loop81 ((120 - (0 : Int32).toInt : Int).toNat + 1) (0 : Int32) ct103 _ _ ls (by omega) (by first | assumption | omega | decide) (by first | assumption | omega | decide) hs106 hs105 hI hP hD hS (lv_sub hl [0, 1, 2, 3, 4, 5, 6] rfl)
                  · skip
                    exact absurd c107 (by decide)
                · skip
                  obtain ⟨rfl, h158⟩ := hr59
                  replace h158 : u63 = 0 := h158
                  obtain ⟨bks160, lks161, gos162, shn163, tpd164, pl0165, ln0166, flt167, opn168, cmy169, wtg170, nm0171, mst172, sus173, cut174, h175, h176, h177, h178, h179, h180, h181, h182, h183, h184, h185, h186, h187, h188, h189, h190, h191, h192, h193, h194, hs159⟩ := a9_0 hI.1
                  have z17_hs159 : zfi 17 (ct60 0) = pl0165.toInt := by rw [hs159]; rfl
                  have z18_hs159 : zfi 18 (ct60 0) = ln0166.toInt := by rw [hs159]; rfl
                  have z21_hs159 : zfi 21 (ct60 0) = cmy169.toInt := by rw [hs159]; rfl
                  obtain ⟨f196, hs195⟩ := a9_12 hI.1
                  refine lv_istore (lv' := [(5, .int 0), (0, .ref (ad 0)), (1, .int g0), (2, .int b), (3, .int i), (4, .int n)]) hx hb dX9_gossip_61 hl (by decide) rfl (fun ls hl => ?_)
                  refine lv_aload_n hx hb dX9_gossip_63 rfl (lv_at hl 1 rfl) ?_
                  refine lv_iconst (v := 0) hx hb dX9_gossip_64 (by decide) ?_
                  refine va_put (D := g.1) (ci := 9) (v := .int 0) (ty := .int) (C := RX9) (T := TX9) (N := 47) hx hb hg inG9 tyX9 tyX9_ok nmX9 hown hK hP hD hS 0 (zw_at (by omega) hs159) rfl 16 (by decide) (hg _ mm_974) (fun _ h9 => h9) rfl (by decide +kernel) rfl rfl (Nat.le_of_ble_eq_true rfl) dX9_gossip_65 (fun H locs hP hD hS => ?_)
                  have hP : zP g ((zw 32 ad ct60).set 0 (ad 0, .inr (9, [.int me, .ref (ad 1), .ref (ad 2), .ref (ad 3), .ref (ad 4), .int bks160, .int lks161, .int gos162, .int shn163, .ref (ad 5), .ref (ad 6), .ref (ad 7), .ref (ad 8), .ref (ad 9), .ref (ad 10), .ref (ad 11), .int 0, .int pl0165, .int ln0166, .int flt167, .int opn168, .int cmy169, .int wtg170, .int nm0171, .ref (ad 12), .ref (ad 13), .ref (ad 14), .ref (ad 15), .ref (ad 16), .ref (ad 17), .ref (ad 18), .ref (ad 19), .ref (ad 20), .ref (ad 21), .ref (ad 22), .ref (ad 23), .ref (ad 24), .ref (ad 25), .ref (ad 26), .ref (ad 27), .int mst172, .int sus173, .ref (ad 28), .ref (ad 29), .ref (ad 30), .ref (ad 31), .int cut174]))) H := hP
                  have hD : va_D A ((zw 32 ad ct60).set 0 (ad 0, .inr (9, [.int me, .ref (ad 1), .ref (ad 2), .ref (ad 3), .ref (ad 4), .int bks160, .int lks161, .int gos162, .int shn163, .ref (ad 5), .ref (ad 6), .ref (ad 7), .ref (ad 8), .ref (ad 9), .ref (ad 10), .ref (ad 11), .int 0, .int pl0165, .int ln0166, .int flt167, .int opn168, .int cmy169, .int wtg170, .int nm0171, .ref (ad 12), .ref (ad 13), .ref (ad 14), .ref (ad 15), .ref (ad 16), .ref (ad 17), .ref (ad 18), .ref (ad 19), .ref (ad 20), .ref (ad 21), .ref (ad 22), .ref (ad 23), .ref (ad 24), .ref (ad 25), .ref (ad 26), .ref (ad 27), .int mst172, .int sus173, .ref (ad 28), .ref (ad 29), .ref (ad 30), .ref (ad 31), .int cut174]))) := hD
                  rw [zw_set (by omega)] at hP hD
                  obtain ⟨ct197, ec198⟩ : ∃ z : Nat → va_E, z = va_up ct60 0 (.inr (9, [.int me, .ref (ad 1), .ref (ad 2), .ref (ad 3), .ref (ad 4), .int bks160, .int lks161, .int gos162, .int shn163, .ref (ad 5), .ref (ad 6), .ref (ad 7), .ref (ad 8), .ref (ad 9), .ref (ad 10), .ref (ad 11), .int 0, .int pl0165, .int ln0166, .int flt167, .int opn168, .int cmy169, .int wtg170, .int nm0171, .ref (ad 12), .ref (ad 13), .ref (ad 14), .ref (ad 15), .ref (ad 16), .ref (ad 17), .ref (ad 18), .ref (ad 19), .ref (ad 20), .ref (ad 21), .ref (ad 22), .ref (ad 23), .ref (ad 24), .ref (ad 25), .ref (ad 26), .ref (ad 27), .int mst172, .int sus173, .ref (ad 28), .ref (ad 29), .ref (ad 30), .ref (ad 31), .int cut174])) := ⟨_, rfl⟩
                  rw [← ec198] at hP hD
                  have hI : IR g ad me ct197 := by rw [ec198]; exact upR hI (by decide) (i9_0 ⟨(bks160 : Int32), (lks161 : Int32), (gos162 : Int32), (shn163 : Int32), (0 : Int32), (pl0165 : Int32), (ln0166 : Int32), (flt167 : Int32), (opn168 : Int32), (cmy169 : Int32), (wtg170 : Int32), (nm0171 : Int32), (mst172 : Int32), (sus173 : Int32), (cut174 : Int32), (by first | omega | decide), (by first | omega | decide), (by first | omega | decide), (by first | omega | decide), (by first | omega | decide), (by first | omega | decide), (by first | omega | decide), (by first | omega | decide), (by first | omega | decide), (by first | omega | decide), (by first | omega | decide), (by first | omega | decide), (by first | omega | decide), (by first | omega | decide), (by first | omega | decide), (by first | omega | decide), (by first | omega | decide), (by first | omega | decide), (by first | omega | decide), (by first | omega | decide), rfl⟩)
                  have hs199 : ct197 12 = .inl (g.2 0, 120, .inl f196) := by rw [ec198, va_up_ne _ _ (by omega)]; exact hs195
                  have hs200 : ct197 0 = .inr (9, [.int me, .ref (ad 1), .ref (ad 2), .ref (ad 3), .ref (ad 4), .int bks160, .int lks161, .int gos162, .int shn163, .ref (ad 5), .ref (ad 6), .ref (ad 7), .ref (ad 8), .ref (ad 9), .ref (ad 10), .ref (ad 11), .int 0, .int pl0165, .int ln0166, .int flt167, .int opn168, .int cmy169, .int wtg170, .int nm0171, .ref (ad 12), .ref (ad 13), .ref (ad 14), .ref (ad 15), .ref (ad 16), .ref (ad 17), .ref (ad 18), .ref (ad 19), .ref (ad 20), .ref (ad 21), .ref (ad 22), .ref (ad 23), .ref (ad 24), .ref (ad 25), .ref (ad 26), .ref (ad 27), .int mst172, .int sus173, .ref (ad 28), .ref (ad 29), .ref (ad 30), .ref (ad 31), .int cut174]) := by rw [ec198]; exact va_up_self _ _ _
                  have z17_hs200 : zfi 17 (ct197 0) = (pl0165 : Int32).toInt := by rw [hs200]; rfl
                  have z18_hs200 : zfi 18 (ct197 0) = (ln0166 : Int32).toInt := by rw [hs200]; rfl
                  have z21_hs200 : zfi 21 (ct197 0) = (cmy169 : Int32).toInt := by rw [hs200]; rfl
                  refine lv_iload hx hb dX9_gossip_68 (lv_at hl 0 rfl) ?_
                  refine lv_if_ne (tgt := 78) hx hb dX9_gossip_70 (by decide) (fun c201 => ?_) (fun c201 => ?_)
                  · skip
                    exact absurd c201 (by decide)
                  · skip
                    refine lv_aload_n hx hb dX9_gossip_73 rfl (lv_at hl 1 rfl) ?_
                    refine va_get (D := g.1) (ci := 9) (v := .int flt167) (C := RX9) (T := TX9) (N := 47) hx hb hg inG9 hown hK hP 0 (zw_at (by omega) hs200) rfl 19 (by decide) (hg _ mm_977) (fun _ h9 => h9) rfl dX9_gossip_74 ?_
                    exact W.iret (v := flt167) hx hb hr (fun t ht hW => ⟨⟨flt167, (), rfl, trivial, ct197, by rw [ht]; exact hP, hD, hI⟩, hS.F ht⟩) hS.2.2 dX9_gossip_77
              · skip
                have c49 : ¬ (n.toInt ≤ tpd10.toInt) := fun q => c49 ((z_le rfl rfl).mpr q)
                refine lv_iconst (v := (-1)) hx hb dX9_gossip_39 (by decide) ?_
                have q202 : ((-1) : Int32).toInt = -1 := by decide
                exact W.iret (v := (-1)) hx hb hr (fun t ht hW => ⟨⟨(-1), (), rfl, trivial, ct, by rw [ht]; exact hP, hD, hI⟩, hS.F ht⟩) hS.2.2 dX9_gossip_40
          · skip
            obtain ⟨rfl, h203⟩ := hr45
            replace h203 : ¬ ((1 : Int) ≤ n.toInt ∧ n.toInt ≤ (100 : Int)) := h203
            refine lv_if_eq (tgt := 39) hx hb dX9_gossip_27 (by decide) (fun c204 => ?_) (fun c204 => ?_)
            · skip
              refine lv_iconst (v := (-1)) hx hb dX9_gossip_39 (by decide) ?_
              have q205 : ((-1) : Int32).toInt = -1 := by decide
              exact W.iret (v := (-1)) hx hb hr (fun t ht hW => ⟨⟨(-1), (), rfl, trivial, ct, by rw [ht]; exact hP, hD, hI⟩, hS.F ht⟩) hS.2.2 dX9_gossip_40
            · skip
              exact absurd c204 (by decide)
      · skip
        obtain rfl := hr41
        refine lv_if_eq (tgt := 39) hx hb dX9_gossip_16 (by decide) (fun c206 => ?_) (fun c206 => ?_)
        · skip
          refine lv_iconst (v := (-1)) hx hb dX9_gossip_39 (by decide) ?_
          have q207 : ((-1) : Int32).toInt = -1 := by decide
          exact W.iret (v := (-1)) hx hb hr (fun t ht hW => ⟨⟨(-1), (), rfl, trivial, ct, by rw [ht]; exact hP, hD, hI⟩, hS.F ht⟩) hS.2.2 dX9_gossip_40
        · skip
          exact absurd c206 (by decide)
  · skip
    obtain ⟨rfl, h208⟩ := hr1
    replace h208 : ¬ ((0 : Int) ≤ g0.toInt ∧ g0.toInt ≤ (7 : Int)) := h208
    refine lv_if_eq (tgt := 39) hx hb dX9_gossip_7 (by decide) (fun c209 => ?_) (fun c209 => ?_)
    · skip
      refine lv_iconst (v := (-1)) hx hb dX9_gossip_39 (by decide) ?_
      have q210 : ((-1) : Int32).toInt = -1 := by decide
      exact W.iret (v := (-1)) hx hb hr (fun t ht hW => ⟨⟨(-1), (), rfl, trivial, ct, by rw [ht]; exact hP, hD, hI⟩, hS.F ht⟩) hS.2.2 dX9_gossip_40
    · skip
      exact absurd c209 (by decide)
