set_option maxHeartbeats 4000000 in
set_option maxRecDepth 100000 in
theorem k_X8_gossip (l : Launch) (g : zG) (sz : Nat) (ad : Nat → Nat) (pe : Int32) (ct : Nat → va_E) (g0 : Int32) (b : Int32) (i : Int32) (n : Int32) (hI : Inv8 g ad pe ct) : Met l yX8_gossip (zW yX8_gossip cX8_gossip 7 (some .int)) ({ frames := 27, cells := 0, slots := 0, locals := 672 }) (va_Pc [.ref (ad 0), .int g0, .int b, .int i, .int n] (zA g (zw 126 ad ct) sz)) (va_Qi (fun (r : Int32) (_ : Unit) => (True)) (fun _ t => ∃ ct2 : Nat → va_E, zP g (zw 126 ad ct2) t.heap ∧ va_D (va_A (zw 126 ad ct) sz) (zw 126 ad ct2) ∧ Inv8 g ad pe ct2) (va_A (zw 126 ad ct) sz)) 0 0 (va_A (zw 126 ad ct) sz) := by
  refine Met.ofW (cc := cX8_gossip) (maxL := 7) (ret := (some .int)) (by decide) rfl ?_
  intro p e s m args below meth c s₁ B hml hv
  obtain ⟨rfl, hsz, hP, hK, hD0, hN⟩ := hv
  have hx := B.exec
  have hb := B.bytes
  have hr := B.returns
  have hg := zW.law (atoms_spec (ws := (zW yX8_gossip cX8_gossip 7 (some .int))) B.pre)
  have hown : s.vm.findClass RX8 = some m.cls := findClass_of_methodNamed B.named
  have hlocks := B.notSynchronized
  have hpe0 := hI.1
  subst hsz
  have hD := hD0.self (sz := s.heap.size)
  generalize hAe : va_A (zw 126 ad ct) s.heap.size = A at hD ⊢
  have hA : ∀ q : Nat, s.heap.size ≤ q → A q := fun q h => by rw [← hAe]; exact Or.inr h
  have hS : va_S A s.heap s.heap [] := va_S.rf
  have hl := lv_entry ([.ref (ad 0), .int g0, .int b, .int i, .int n]) (n := 7) (Nat.le_of_ble_eq_true rfl)
  rw [lg_entry_eq]
  generalize (lg_sl ([.ref (ad 0), .int g0, .int b, .int i, .int n]) ++ List.replicate (7 - (lg_sl ([.ref (ad 0), .int g0, .int b, .int i, .int n])).length) Slot.unset).toArray = ls at hl ⊢
  have hl : lv_has ls 7 [(0, .ref (ad 0)), (1, .int g0), (2, .int b), (3, .int i), (4, .int n)] := hl
  have rg_g0 := z_rng g0
  have rg_b := z_rng b
  have rg_i := z_rng i
  have rg_n := z_rng n
  refine lv_iload_n hx hb dX8_gossip_0 rfl (lv_at hl 1 rfl) ?_
  refine lv_iconst (v := 0) hx hb dX8_gossip_1 (by decide) ?_
  refine lv_bipush (v := 7) hx hb dX8_gossip_2 (by decide) ?_
  refine zc_i (va_runS (As := [.int g0, .int 0, .int 7]) (rest := []) ⟨hx, hb, hml, hown, hg⟩ (k_X8_within l g ad pe ct g0 (0 : Int32) (7 : Int32) hI) (va_cwS 3 hg (z_gS mm_407 mm_408 mm_108 mm_409) rfl rfl rfl (by decide +kernel) ⟨Nat.le_of_ble_eq_true rfl, Nat.le_of_ble_eq_true rfl⟩) (zR.pre [.int g0, .int 0, .int 7] hP hK hN) rfl rfl hl.1 rfl (lv_room (Nat.le_of_ble_eq_true rfl)) dX8_gossip_4 ⟨Nat.le_of_ble_eq_true rfl, Nat.le_of_ble_eq_true rfl⟩) (fun r1 hr1 => ?_)
  rcases hr1 with hr1 | hr1
  · skip
    obtain ⟨rfl, h2, h3⟩ := hr1
    have h2 : (0 : Int) ≤ g0.toInt := h2
    have h3 : g0.toInt ≤ (7 : Int) := h3
    refine lv_if_eq (tgt := 42) hx hb dX8_gossip_7 (by decide) (fun c4 => ?_) (fun c4 => ?_)
    · skip
      exact absurd c4 (by decide)
    · skip
      refine lv_aload_n hx hb dX8_gossip_10 rfl (lv_at hl 0 rfl) ?_
      refine lv_iload_n hx hb dX8_gossip_11 rfl (lv_at hl 2 rfl) ?_
      refine lv_iload_n hx hb dX8_gossip_12 rfl (lv_at hl 3 rfl) ?_
      obtain ⟨bk7, dr6, h8, h9, h10, hs5⟩ := a8_0 hI
      refine zc_i (va_runV (As := [.int b, .int i]) (rest := []) ⟨hx, hb, hml, hown, hg⟩ (k_X8_isLive l g ad pe ct b i hI) (cwV 2 hg (z_gV mm_583 mm_585 mm_18 mm_108 mm_586) rfl rfl rfl (by decide +kernel) ⟨Nat.le_of_ble_eq_true rfl, Nat.le_of_ble_eq_true rfl⟩) ⟨(zR.pre [.ref (ad 0), .int b, .int i] hP hK hN).1, va_recv hK hP (ci := 8) (q0 := 0) rfl (zw_at (by omega) hs5), (zR.pre [.ref (ad 0), .int b, .int i] hP hK hN).2⟩ rfl rfl hl.1 rfl (lv_room (Nat.le_of_ble_eq_true rfl)) dX8_gossip_13 ⟨Nat.le_of_ble_eq_true rfl, Nat.le_of_ble_eq_true rfl⟩) (fun r11 hr11 => ?_)
      rcases hr11 with hr11 | hr11
      · skip
        obtain ⟨rfl, h12, h13⟩ := hr11
        have h12 : 0 ≤ b.toInt ∧ b.toInt ≤ 3 := h12
        have h13 : 0 ≤ i.toInt ∧ i.toInt ≤ 7 := h13
        refine lv_if_eq (tgt := 42) hx hb dX8_gossip_16 (by decide) (fun c14 => ?_) (fun c14 => ?_)
        · skip
          exact absurd c14 (by decide)
        · skip
          refine lv_iload hx hb dX8_gossip_19 (lv_at hl 4 rfl) ?_
          refine lv_iconst (v := 1) hx hb dX8_gossip_21 (by decide) ?_
          refine lv_bipush (v := 100) hx hb dX8_gossip_22 (by decide) ?_
          refine zc_i (va_runS (As := [.int n, .int 1, .int 100]) (rest := []) ⟨hx, hb, hml, hown, hg⟩ (k_X8_within l g ad pe ct n (1 : Int32) (100 : Int32) hI) (va_cwS 3 hg (z_gS mm_407 mm_408 mm_108 mm_409) rfl rfl rfl (by decide +kernel) ⟨Nat.le_of_ble_eq_true rfl, Nat.le_of_ble_eq_true rfl⟩) (zR.pre [.int n, .int 1, .int 100] hP hK hN) rfl rfl hl.1 rfl (lv_room (Nat.le_of_ble_eq_true rfl)) dX8_gossip_24 ⟨Nat.le_of_ble_eq_true rfl, Nat.le_of_ble_eq_true rfl⟩) (fun r15 hr15 => ?_)
          rcases hr15 with hr15 | hr15
          · skip
            obtain ⟨rfl, h16, h17⟩ := hr15
            have h16 : (1 : Int) ≤ n.toInt := h16
            have h17 : n.toInt ≤ (100 : Int) := h17
            refine lv_if_eq (tgt := 42) hx hb dX8_gossip_27 (by decide) (fun c18 => ?_) (fun c18 => ?_)
            · skip
              exact absurd c18 (by decide)
            · skip
              refine lv_aload_n hx hb dX8_gossip_30 rfl (lv_at hl 0 rfl) ?_
              refine va_get (D := g.1) (ci := 8) (v := .ref (ad 3)) (C := RX8) (T := TX8) (N := 13) hx hb hg inG8 hown hK hP 0 (zw_at (by omega) hs5) rfl 2 (by decide) (hg _ mm_362) (fun _ h9 => h9) rfl dX8_gossip_31 ?_
              obtain ⟨len20, h21, h22, hs19⟩ := a8_3 hI
              refine va_get (D := g.1) (ci := 7) (v := .int len20) (C := RX7) (T := TX7) (N := 2) hx hb hg inG7 hown hK hP 3 (zw_at (by omega) hs19) rfl 0 (by decide) (hg _ mm_137) (fun _ h9 => h9) rfl dX8_gossip_34 ?_
              refine lv_iload hx hb dX8_gossip_37 (lv_at hl 4 rfl) ?_
              refine lv_icmp_ge (tgt := 44) hx hb dX8_gossip_39 (by decide) (fun c23 => ?_) (fun c23 => ?_)
              · skip
                have c23 : n.toInt ≤ len20.toInt := (z_le rfl rfl).mp c23
                refine lv_aload_n hx hb dX8_gossip_44 rfl (lv_at hl 0 rfl) ?_
                refine va_get (D := g.1) (ci := 8) (v := .ref (ad (99 + 3 * dr6))) (C := RX8) (T := TX8) (N := 13) hx hb hg inG8 hown hK hP 0 (zw_at (by omega) hs5) rfl 10 (by decide) (hg _ mm_370) (fun _ h9 => h9) rfl dX8_gossip_45 ?_
                refine lv_aload_n hx hb dX8_gossip_48 rfl (lv_at hl 0 rfl) ?_
                refine va_get (D := g.1) (ci := 8) (v := .ref (ad 3)) (C := RX8) (T := TX8) (N := 13) hx hb hg inG8 hown hK hP 0 (zw_at (by omega) hs5) rfl 2 (by decide) (hg _ mm_362) (fun _ h9 => h9) rfl dX8_gossip_49 ?_
                refine lv_iload hx hb dX8_gossip_52 (lv_at hl 4 rfl) ?_
                obtain ⟨tld25, ofb26, hol27, flt28, fla29, ofl30, len31, atx32, ref33, hz34, h35, h36, h37, h38, hz39, hs24⟩ := a8_44 (kc := (99 + 3 * dr6)) (by omega) hI
                have bhz34 := z_b01 hz34
                have bhz39 := z_b01 hz39
                have hFc := zw_free hD hS hA
                refine va_callv (va_runV (As := [.ref (ad 3), .int n]) (rest := []) ⟨hx, hb, hml, hown, hg⟩ (k_X4_write l g _ ad pe ct (99 + 3 * dr6) n (by omega) (by first | omega | decide) hI) (cwV 2 hg (z_gV mm_628 mm_629 mm_630 mm_114 mm_631) rfl rfl rfl (by decide +kernel) ⟨Nat.le_of_ble_eq_true rfl, Nat.le_of_ble_eq_true rfl⟩) ⟨(zA.pre [.ref (ad (99 + 3 * dr6)), .ref (ad 3), .int n] hP hK hD hN).1, va_recv hK hP (ci := 4) (q0 := (99 + 3 * dr6)) rfl (zw_at (by omega) hs24), (zA.pre [.ref (ad (99 + 3 * dr6)), .ref (ad 3), .int n] hP hK hD hN).2⟩ rfl rfl hl.1 rfl (lv_room (Nat.le_of_ble_eq_true rfl)) dX8_gossip_54 ⟨Nat.le_of_ble_eq_true rfl, Nat.le_of_ble_eq_true rfl⟩) hS (fun q _ h => hFc q h) hFc (fun _ t H1 locs ht hvm hr40 hB hz1 hk1 hS => ?_)
                obtain ⟨ct41, hP1, hD1, hI⟩ := hB
                rw [ht] at hP1
                have hD := hD1.weaken (fun _ _ _ h => hFc _ h)
                generalize H1 = H at hP1 hS ⊢
                have hP := hP1
                refine W.widen (k := 0) (n := 0) (Nat.le_refl _) (Nat.le_refl _) ?_
                refine lv_aload_n hx hb dX8_gossip_57 rfl (lv_at hl 0 rfl) ?_
                obtain ⟨bk44, dr43, h45, h46, h47, hs42⟩ := a8_0 hI
                refine va_get (D := g.1) (ci := 8) (v := .ref (ad 3)) (C := RX8) (T := TX8) (N := 13) hx hb hg inG8 hown hK hP 0 (zw_at (by omega) hs42) rfl 2 (by decide) (hg _ mm_362) (fun _ h9 => h9) rfl dX8_gossip_58 ?_
                obtain ⟨len49, h50, h51, hs48⟩ := a8_3 hI
                have hFc := zw_free hD hS hA
                refine va_callv (va_runV (As := []) (rest := []) ⟨hx, hb, hml, hown, hg⟩ (k_X7_clear l g _ ad pe ct41  hI) (cwV 0 hg (z_gV mm_575 mm_576 mm_577 mm_109 mm_578) rfl rfl rfl (by decide +kernel) ⟨Nat.le_of_ble_eq_true rfl, Nat.le_of_ble_eq_true rfl⟩) ⟨(zA.pre [.ref (ad 3)] hP hK hD hN).1, va_recv hK hP (ci := 7) (q0 := 3) rfl (zw_at (by omega) hs48), (zA.pre [.ref (ad 3)] hP hK hD hN).2⟩ rfl rfl hl.1 rfl (lv_room (Nat.le_of_ble_eq_true rfl)) dX8_gossip_61 ⟨Nat.le_of_ble_eq_true rfl, Nat.le_of_ble_eq_true rfl⟩) hS (fun q _ h => hFc q h) hFc (fun _ t H1 locs ht hvm hr52 hB hz1 hk1 hS => ?_)
                obtain ⟨ct53, hP1, hD1, hI, hk54⟩ := hB
                rw [ht] at hP1
                have hD := hD1.weaken (fun _ _ _ h => hFc _ h)
                generalize H1 = H at hP1 hS ⊢
                have hP := hP1
                refine W.widen (k := 0) (n := 0) (Nat.le_refl _) (Nat.le_refl _) ?_
                have hs55 : ct53 0 = .inr (8, [.ref (ad 1), .ref (ad 2), .ref (ad 3), .ref (ad 5), .ref (ad 6), .ref (ad 9), .ref (ad 10), .ref (ad 17), .ref (ad 21), .ref (ad 34), .ref (ad (99 + 3 * dr43)), .int pe, .int bk44]) := hk54.trans hs42
                refine lv_aload_n hx hb dX8_gossip_64 rfl (lv_at hl 0 rfl) ?_
                refine va_get (D := g.1) (ci := 8) (v := .ref (ad (99 + 3 * dr43))) (C := RX8) (T := TX8) (N := 13) hx hb hg inG8 hown hK hP 0 (zw_at (by omega) hs55) rfl 10 (by decide) (hg _ mm_370) (fun _ h9 => h9) rfl dX8_gossip_65 ?_
                obtain ⟨tld57, ofb58, hol59, flt60, fla61, ofl62, len63, atx64, ref65, hz66, h67, h68, h69, h70, hz71, hs56⟩ := a8_44 (kc := (99 + 3 * dr43)) (by omega) hI
                have bhz66 := z_b01 hz66
                have bhz71 := z_b01 hz71
                have hFc := zw_free hD hS hA
                refine va_callv (va_runV (As := []) (rest := []) ⟨hx, hb, hml, hown, hg⟩ (k_X4_read l g _ ad pe ct53 (99 + 3 * dr43) (by omega) hI) (cwV 0 hg (z_gV mm_636 mm_637 mm_638 mm_114 mm_639) rfl rfl rfl (by decide +kernel) ⟨Nat.le_of_ble_eq_true rfl, Nat.le_of_ble_eq_true rfl⟩) ⟨(zA.pre [.ref (ad (99 + 3 * dr43))] hP hK hD hN).1, va_recv hK hP (ci := 4) (q0 := (99 + 3 * dr43)) rfl (zw_at (by omega) hs56), (zA.pre [.ref (ad (99 + 3 * dr43))] hP hK hD hN).2⟩ rfl rfl hl.1 rfl (lv_room (Nat.le_of_ble_eq_true rfl)) dX8_gossip_68 ⟨Nat.le_of_ble_eq_true rfl, Nat.le_of_ble_eq_true rfl⟩) hS (fun q _ h => hFc q h) hFc (fun _ t H1 locs ht hvm hr72 hB hz1 hk1 hS => ?_)
                obtain ⟨ct73, hP1, hD1, hI⟩ := hB
                rw [ht] at hP1
                have hD := hD1.weaken (fun _ _ _ h => hFc _ h)
                generalize H1 = H at hP1 hS ⊢
                have hP := hP1
                refine W.widen (k := 0) (n := 0) (Nat.le_refl _) (Nat.le_refl _) ?_
                refine lv_aload_n hx hb dX8_gossip_71 rfl (lv_at hl 0 rfl) ?_
                obtain ⟨bk76, dr75, h77, h78, h79, hs74⟩ := a8_0 hI
                refine va_get (D := g.1) (ci := 8) (v := .ref (ad (99 + 3 * dr75))) (C := RX8) (T := TX8) (N := 13) hx hb hg inG8 hown hK hP 0 (zw_at (by omega) hs74) rfl 10 (by decide) (hg _ mm_370) (fun _ h9 => h9) rfl dX8_gossip_72 ?_
                obtain ⟨tld81, ofb82, hol83, flt84, fla85, ofl86, len87, atx88, ref89, hz90, h91, h92, h93, h94, hz95, hs80⟩ := a8_44 (kc := (99 + 3 * dr75)) (by omega) hI
                have bhz90 := z_b01 hz90
                have bhz95 := z_b01 hz95
                refine va_get (D := g.1) (ci := 4) (v := .int flt84) (C := RX4) (T := TX4) (N := 11) hx hb hg inG4 hown hK hP (99 + 3 * dr75) (zw_at (by omega) hs80) rfl 3 (by decide) (hg _ mm_278) (fun _ h9 => h9) rfl dX8_gossip_75 ?_
                refine lv_if_eq (tgt := 101) hx hb dX8_gossip_78 (by decide) (fun c96 => ?_) (fun c96 => ?_)
                · skip
                  have c96 : flt84.toInt = 0 := (z_eq rfl (by decide : (0 : Int32).toInt = 0)).mp c96
                  refine lv_aload_n hx hb dX8_gossip_101 rfl (lv_at hl 0 rfl) ?_
                  refine va_get (D := g.1) (ci := 8) (v := .ref (ad (99 + 3 * dr75))) (C := RX8) (T := TX8) (N := 13) hx hb hg inG8 hown hK hP 0 (zw_at (by omega) hs74) rfl 10 (by decide) (hg _ mm_370) (fun _ h9 => h9) rfl dX8_gossip_102 ?_
                  refine lv_astore (lv' := [(5, .ref (ad (99 + 3 * dr75))), (0, .ref (ad 0)), (1, .int g0), (2, .int b), (3, .int i), (4, .int n)]) hx hb dX8_gossip_105 hl (by decide) rfl (fun ls hl => ?_)
                  refine lv_aload_n hx hb dX8_gossip_107 rfl (lv_at hl 1 rfl) ?_
                  refine lv_aload_n hx hb dX8_gossip_108 rfl (lv_at hl 1 rfl) ?_
                  refine va_get (D := g.1) (ci := 8) (v := .ref (ad 9)) (C := RX8) (T := TX8) (N := 13) hx hb hg inG8 hown hK hP 0 (zw_at (by omega) hs74) rfl 5 (by decide) (hg _ mm_365) (fun _ h9 => h9) rfl dX8_gossip_109 ?_
                  refine lv_iload_n hx hb dX8_gossip_112 rfl (lv_at hl 2 rfl) ?_
                  obtain ⟨f98, hgf99, hs97⟩ := a8_9 hI
                  refine va_aldq hx hb hK hP 9 6 (zw_at (by omega) hs97) rfl (z_in rfl (by omega) (by omega)) dX8_gossip_113 ?_
                  obtain ⟨j100, hj100, ej100⟩ := hgf99 _ (z_clt (x := g0) rfl (by omega) (by omega))
                  rw [ej100]
                  refine W.eq (g2 := F0 m 114 ls [.ref (ad (99 + 3 * j100)), .ref (ad 0)]) rfl ?_
                  refine va_put (D := g.1) (ci := 8) (v := .ref (ad (99 + 3 * j100))) (ty := .object "TwoFit$Gossip") (C := RX8) (T := TX8) (N := 13) hx hb hg inG8 tyX8 tyX8_ok nmX8 hown hK hP hD hS 0 (zw_at (by omega) hs74) rfl 10 (by decide) (hg _ mm_370) (fun _ h9 => h9) rfl (by decide +kernel) rfl rfl (Nat.le_of_ble_eq_true rfl) dX8_gossip_114 (fun H locs hP hD hS => ?_)
                  have hP : zP g ((zw 126 ad ct73).set 0 (ad 0, .inr (8, [.ref (ad 1), .ref (ad 2), .ref (ad 3), .ref (ad 5), .ref (ad 6), .ref (ad 9), .ref (ad 10), .ref (ad 17), .ref (ad 21), .ref (ad 34), .ref (ad (99 + 3 * j100)), .int pe, .int bk76]))) H := hP
                  have hD : va_D A ((zw 126 ad ct73).set 0 (ad 0, .inr (8, [.ref (ad 1), .ref (ad 2), .ref (ad 3), .ref (ad 5), .ref (ad 6), .ref (ad 9), .ref (ad 10), .ref (ad 17), .ref (ad 21), .ref (ad 34), .ref (ad (99 + 3 * j100)), .int pe, .int bk76]))) := hD
                  rw [zw_set (by omega)] at hP hD
                  obtain ⟨ct101, ec102⟩ : ∃ z : Nat → va_E, z = va_up ct73 0 (.inr (8, [.ref (ad 1), .ref (ad 2), .ref (ad 3), .ref (ad 5), .ref (ad 6), .ref (ad 9), .ref (ad 10), .ref (ad 17), .ref (ad 21), .ref (ad 34), .ref (ad (99 + 3 * j100)), .int pe, .int bk76])) := ⟨_, rfl⟩
                  rw [← ec102] at hP hD
                  have hI : Inv8 g ad pe ct101 := by rw [ec102]; exact up8 hI (i8_0 ⟨(bk76 : Int32), j100, (by omega), (by first | omega | decide), (by first | omega | decide), rfl⟩)
                  have hs103 : ct101 (99 + 3 * dr75) = .inr (4, [.int tld81, .int ofb82, .int hol83, .int flt84, .int fla85, .int ofl86, .ref (ad ((99 + 3 * dr75) + 1)), .ref (ad ((99 + 3 * dr75) + 2)), .int len87, .int atx88, .int ref89]) := by rw [ec102, va_up_ne _ _ (by omega)]; exact hs80
                  have hs104 : ct101 9 = .inl (g.2 6, 8, .inr (.inr (.inr (.inr f98)))) := by rw [ec102, va_up_ne _ _ (by omega)]; exact hs97
                  have hs105 : ct101 0 = .inr (8, [.ref (ad 1), .ref (ad 2), .ref (ad 3), .ref (ad 5), .ref (ad 6), .ref (ad 9), .ref (ad 10), .ref (ad 17), .ref (ad 21), .ref (ad 34), .ref (ad (99 + 3 * j100)), .int pe, .int bk76]) := by rw [ec102]; exact va_up_self _ _ _
                  refine lv_aload_n hx hb dX8_gossip_117 rfl (lv_at hl 1 rfl) ?_
                  refine va_get (D := g.1) (ci := 8) (v := .ref (ad 9)) (C := RX8) (T := TX8) (N := 13) hx hb hg inG8 hown hK hP 0 (zw_at (by omega) hs105) rfl 5 (by decide) (hg _ mm_365) (fun _ h9 => h9) rfl dX8_gossip_118 ?_
                  refine lv_iload_n hx hb dX8_gossip_121 rfl (lv_at hl 2 rfl) ?_
                  refine lv_aload hx hb dX8_gossip_122 (lv_at hl 0 rfl) ?_
                  refine va_astq hx hb hK hP hD hS 9 6 (99 + 3 * dr75) 4 (zw_at (by omega) hs104) rfl (zw_at (by omega) hs103) rfl (z_in rfl (by omega) (by omega)) dX8_gossip_124 (fun H locs hP hD hS => ?_)
                  have hgf106 : ∀ i, i < 8 → ∃ j, j < 9 ∧ (va_up f98 (Int32.toNatClampNeg g0) (some (ad (99 + 3 * dr75)))) i = some (ad (99 + 3 * j)) := fun i hi => by
                    unfold va_up
                    by_cases q : i = Int32.toNatClampNeg g0
                    · rw [if_pos q]; exact ⟨dr75, by omega, rfl⟩
                    · rw [if_neg q]; exact hgf99 i hi
                  have hP : zP g ((zw 126 ad ct101).set 9 (ad 9, .inl (g.2 6, 8, .inr (.inr (.inr (.inr (va_up f98 (Int32.toNatClampNeg g0) (some (ad (99 + 3 * dr75)))))))))) H := hP
                  have hD : va_D A ((zw 126 ad ct101).set 9 (ad 9, .inl (g.2 6, 8, .inr (.inr (.inr (.inr (va_up f98 (Int32.toNatClampNeg g0) (some (ad (99 + 3 * dr75)))))))))) := hD
                  rw [zw_set (by omega)] at hP hD
                  obtain ⟨ct107, ec108⟩ : ∃ z : Nat → va_E, z = va_up ct101 9 (.inl (g.2 6, 8, .inr (.inr (.inr (.inr (va_up f98 (Int32.toNatClampNeg g0) (some (ad (99 + 3 * dr75))))))))) := ⟨_, rfl⟩
                  rw [← ec108] at hP hD
                  have hI : Inv8 g ad pe ct107 := by rw [ec108]; exact up8 hI (i8_9 ⟨_, hgf106, rfl⟩)
                  have hs109 : ct107 (99 + 3 * dr75) = .inr (4, [.int tld81, .int ofb82, .int hol83, .int flt84, .int fla85, .int ofl86, .ref (ad ((99 + 3 * dr75) + 1)), .ref (ad ((99 + 3 * dr75) + 2)), .int len87, .int atx88, .int ref89]) := by rw [ec108, va_up_ne _ _ (by omega)]; exact hs103
                  have hs110 : ct107 0 = .inr (8, [.ref (ad 1), .ref (ad 2), .ref (ad 3), .ref (ad 5), .ref (ad 6), .ref (ad 9), .ref (ad 10), .ref (ad 17), .ref (ad 21), .ref (ad 34), .ref (ad (99 + 3 * j100)), .int pe, .int bk76]) := by rw [ec108, va_up_ne _ _ (by omega)]; exact hs105
                  have hs111 : ct107 9 = .inl (g.2 6, 8, .inr (.inr (.inr (.inr (va_up f98 (Int32.toNatClampNeg g0) (some (ad (99 + 3 * dr75)))))))) := by rw [ec108]; exact va_up_self _ _ _
                  refine lv_aload hx hb dX8_gossip_125 (lv_at hl 0 rfl) ?_
                  refine lv_iload_n hx hb dX8_gossip_127 rfl (lv_at hl 3 rfl) ?_
                  refine lv_iload_n hx hb dX8_gossip_128 rfl (lv_at hl 4 rfl) ?_
                  have hFc := zw_free hD hS hA
                  refine va_callv (va_runV (As := [.int b, .int i]) (rest := []) ⟨hx, hb, hml, hown, hg⟩ (k_X4_tellOf l g _ ad pe ct107 (99 + 3 * dr75) b i (by omega) hI) (cwV 2 hg (z_gV mm_640 mm_641 mm_642 mm_114 mm_643) rfl rfl rfl (by decide +kernel) ⟨Nat.le_of_ble_eq_true rfl, Nat.le_of_ble_eq_true rfl⟩) ⟨(zA.pre [.ref (ad (99 + 3 * dr75)), .int b, .int i] hP hK hD hN).1, va_recv hK hP (ci := 4) (q0 := (99 + 3 * dr75)) rfl (zw_at (by omega) hs109), (zA.pre [.ref (ad (99 + 3 * dr75)), .int b, .int i] hP hK hD hN).2⟩ rfl rfl hl.1 rfl (lv_room (Nat.le_of_ble_eq_true rfl)) dX8_gossip_129 ⟨Nat.le_of_ble_eq_true rfl, Nat.le_of_ble_eq_true rfl⟩) hS (fun q _ h => hFc q h) hFc (fun _ t H1 locs ht hvm hr112 hB hz1 hk1 hS => ?_)
                  obtain ⟨ct113, hP1, hD1, hI⟩ := hB
                  rw [ht] at hP1
                  have hD := hD1.weaken (fun _ _ _ h => hFc _ h)
                  generalize H1 = H at hP1 hS ⊢
                  have hP := hP1
                  refine W.widen (k := 0) (n := 0) (Nat.le_refl _) (Nat.le_refl _) ?_
                  refine lv_iconst (v := 0) hx hb dX8_gossip_132 (by decide) ?_
                  refine lv_istore (lv' := [(6, .int 0), (5, .ref (ad (99 + 3 * dr75))), (0, .ref (ad 0)), (1, .int g0), (2, .int b), (3, .int i), (4, .int n)]) hx hb dX8_gossip_133 hl (by decide) rfl (fun ls hl => ?_)
                  have loop135 : ∀ (n135 : Nat) (v6_135 : Int32) (ct114 : Nat → va_E) (H : Heap) (locs : List Loc) (ls : Array Slot), ((16 - v6_135.toInt : Int).toNat < n135) → (0 ≤ v6_135.toInt ∧ v6_135.toInt ≤ 16) → (Inv8 g ad pe ct114) → zP g (zw 126 ad ct114) H → va_D A (zw 126 ad ct114) → va_S A s.heap H locs → lv_has ls 7 [(6, .int v6_135), (5, .ref (ad (99 + 3 * dr75))), (0, .ref (ad 0)), (1, .int g0), (2, .int b), (3, .int i), (4, .int n)] → W p l e (headSpec (zW yX8_gossip cX8_gossip 7 (some .int)) ({ frames := 27, cells := 0, slots := 0, locals := 672 })).room s m ([.ref (ad 0), .int g0, .int b, .int i, .int n] : List Value).toArray below meth c H locs 0 0 (MQ below (va_Qi (fun (r : Int32) (_ : Unit) => (True)) (fun _ t => ∃ ct2 : Nat → va_E, zP g (zw 126 ad ct2) t.heap ∧ va_D A (zw 126 ad ct2) ∧ Inv8 g ad pe ct2) A) ([.ref (ad 0), .int g0, .int b, .int i, .int n] : List Value).toArray s 0 0 A) (F0 m 135 ls []) := by
                    intro n135
                    induction n135 with
                    | zero =>
                      intro v6_135 ct114 H locs ls hn135 b6_135 hI hP hD hS hl
                      exact absurd hn135 (Nat.not_lt_zero _)
                    | succ n135 ih135 =>
                      intro v6_135 ct114 H locs ls hn135 b6_135 hI hP hD hS hl
                      refine lv_iload hx hb dX8_gossip_135 (lv_at hl 0 rfl) ?_
                      refine lv_aload_n hx hb dX8_gossip_137 rfl (lv_at hl 2 rfl) ?_
                      obtain ⟨bk117, dr116, h118, h119, h120, hs115⟩ := a8_0 hI
                      refine va_get (D := g.1) (ci := 8) (v := .int pe) (C := RX8) (T := TX8) (N := 13) hx hb hg inG8 hown hK hP 0 (zw_at (by omega) hs115) rfl 11 (by decide) (hg _ mm_371) (fun _ h9 => h9) rfl dX8_gossip_138 ?_
                      refine lv_icmp_ge (tgt := 165) hx hb dX8_gossip_141 (by decide) (fun c121 => ?_) (fun c121 => ?_)
                      · skip
                        have c121 : pe.toInt ≤ v6_135.toInt := (z_le rfl rfl).mp c121
                        refine lv_iconst (v := 1) hx hb dX8_gossip_165 (by decide) ?_
                        have q122 : (1 : Int32).toInt = 1 := by decide
                        exact W.iret (v := 1) hx hb hr (fun t ht hW => ⟨⟨1, (), rfl, trivial, ct114, by rw [ht]; exact hP, hD, hI⟩, hS.F ht⟩) hS.2.2 dX8_gossip_166
                      · skip
                        have c121 : ¬ (pe.toInt ≤ v6_135.toInt) := fun q => c121 ((z_le rfl rfl).mpr q)
                        refine lv_aload_n hx hb dX8_gossip_144 rfl (lv_at hl 2 rfl) ?_
                        refine lv_iload hx hb dX8_gossip_145 (lv_at hl 0 rfl) ?_
                        have hFc := zw_free hD hS hA
                        refine va_callv (va_runV (As := [.int v6_135]) (rest := []) ⟨hx, hb, hml, hown, hg⟩ (k_X8_spell l g _ ad pe ct114 v6_135 hI) (cwV 1 hg (z_gV mm_443 mm_445 mm_2 mm_108 mm_446) rfl rfl rfl (by decide +kernel) ⟨Nat.le_of_ble_eq_true rfl, Nat.le_of_ble_eq_true rfl⟩) ⟨(zA.pre [.ref (ad 0), .int v6_135] hP hK hD hN).1, va_recv hK hP (ci := 8) (q0 := 0) rfl (zw_at (by omega) hs115), (zA.pre [.ref (ad 0), .int v6_135] hP hK hD hN).2⟩ rfl rfl hl.1 rfl (lv_room (Nat.le_of_ble_eq_true rfl)) dX8_gossip_147 ⟨Nat.le_of_ble_eq_true rfl, Nat.le_of_ble_eq_true rfl⟩) hS (fun q _ h => hFc q h) hFc (fun _ t H1 locs ht hvm hr123 hB hz1 hk1 hS => ?_)
                        obtain ⟨ct124, hP1, hD1, hI⟩ := hB
                        rw [ht] at hP1
                        have hD := hD1.weaken (fun _ _ _ h => hFc _ h)
                        generalize H1 = H at hP1 hS ⊢
                        have hP := hP1
                        refine W.widen (k := 0) (n := 0) (Nat.le_refl _) (Nat.le_refl _) ?_
                        refine lv_aload hx hb dX8_gossip_150 (lv_at hl 1 rfl) ?_
                        refine lv_aload_n hx hb dX8_gossip_152 rfl (lv_at hl 2 rfl) ?_
                        obtain ⟨bk127, dr126, h128, h129, h130, hs125⟩ := a8_0 hI
                        refine va_get (D := g.1) (ci := 8) (v := .ref (ad 34)) (C := RX8) (T := TX8) (N := 13) hx hb hg inG8 hown hK hP 0 (zw_at (by omega) hs125) rfl 9 (by decide) (hg _ mm_369) (fun _ h9 => h9) rfl dX8_gossip_153 ?_
                        obtain ⟨tld132, ofb133, hol134, flt135, fla136, ofl137, len138, atx139, ref140, hz141, h142, h143, h144, h145, hz146, hs131⟩ := a8_44 (kc := (99 + 3 * dr75)) (by omega) hI
                        have bhz141 := z_b01 hz141
                        have bhz146 := z_b01 hz146
                        have hFc := zw_free hD hS hA
                        refine va_callv (va_runV (As := [.ref (ad 34)]) (rest := []) ⟨hx, hb, hml, hown, hg⟩ (k_X4_judge l g _ ad pe ct124 (99 + 3 * dr75) (by omega) hI) (cwV 1 hg (z_gV mm_455 mm_456 mm_457 mm_114 mm_458) rfl rfl rfl (by decide +kernel) ⟨Nat.le_of_ble_eq_true rfl, Nat.le_of_ble_eq_true rfl⟩) ⟨(zA.pre [.ref (ad (99 + 3 * dr75)), .ref (ad 34)] hP hK hD hN).1, va_recv hK hP (ci := 4) (q0 := (99 + 3 * dr75)) rfl (zw_at (by omega) hs131), (zA.pre [.ref (ad (99 + 3 * dr75)), .ref (ad 34)] hP hK hD hN).2⟩ rfl rfl hl.1 rfl (lv_room (Nat.le_of_ble_eq_true rfl)) dX8_gossip_156 ⟨Nat.le_of_ble_eq_true rfl, Nat.le_of_ble_eq_true rfl⟩) hS (fun q _ h => hFc q h) hFc (fun _ t H1 locs ht hvm hr147 hB hz1 hk1 hS => ?_)
                        obtain ⟨ct148, hP1, hD1, hI⟩ := hB
                        rw [ht] at hP1
                        have hD := hD1.weaken (fun _ _ _ h => hFc _ h)
                        generalize H1 = H at hP1 hS ⊢
                        have hP := hP1
                        refine W.widen (k := 0) (n := 0) (Nat.le_refl _) (Nat.le_refl _) ?_
                        obtain ⟨x149, ex149⟩ : ∃ y : Int32, y = v6_135 + 1 := ⟨_, rfl⟩
                        have tx149 : x149.toInt = v6_135.toInt + 1 := by rw [ex149]; exact z_add rfl (by decide : (1 : Int32).toInt = 1) (by omega) (by omega)
                        refine lv_iinc (v := x149) (lv' := [(6, .int x149), (5, .ref (ad (99 + 3 * dr75))), (0, .ref (ad 0)), (1, .int g0), (2, .int b), (3, .int i), (4, .int n)]) hx hb dX8_gossip_159 hl (k := 0) rfl (by rw [ex149]; rfl) (by decide) rfl (fun ls hl => ?_)
                        refine lv_goto (tgt := 135) hx hb dX8_gossip_162 (by decide) ?_
                        exact ih135 x149 ct148 _ _ ls (by omega) (by first | omega | decide) hI hP hD hS (lv_sub hl [0, 1, 2, 3, 4, 5, 6] rfl)
                  exact loop135 ((16 - (0 : Int32).toInt : Int).toNat + 1) (0 : Int32) ct113 _ _ ls (by omega) (by first | omega | decide) hI hP hD hS (lv_sub hl [0, 1, 2, 3, 4, 5, 6] rfl)
                · skip
                  have c96 : ¬ (flt84.toInt = 0) := fun q => c96 ((z_eq rfl (by decide : (0 : Int32).toInt = 0)).mpr q)
                  refine lv_sipush (v := (-1000)) hx hb dX8_gossip_81 (by decide) ?_
                  refine lv_aload_n hx hb dX8_gossip_84 rfl (lv_at hl 0 rfl) ?_
                  refine va_get (D := g.1) (ci := 8) (v := .ref (ad (99 + 3 * dr75))) (C := RX8) (T := TX8) (N := 13) hx hb hg inG8 hown hK hP 0 (zw_at (by omega) hs74) rfl 10 (by decide) (hg _ mm_370) (fun _ h9 => h9) rfl dX8_gossip_85 ?_
                  refine va_get (D := g.1) (ci := 4) (v := .int flt84) (C := RX4) (T := TX4) (N := 11) hx hb hg inG4 hown hK hP (99 + 3 * dr75) (zw_at (by omega) hs80) rfl 3 (by decide) (hg _ mm_278) (fun _ h9 => h9) rfl dX8_gossip_88 ?_
                  refine lv_imul hx hb dX8_gossip_91 ?_
                  refine lv_topi (fun x150 ex150 => ?_)
                  refine lv_aload_n hx hb dX8_gossip_92 rfl (lv_at hl 0 rfl) ?_
                  refine va_get (D := g.1) (ci := 8) (v := .ref (ad (99 + 3 * dr75))) (C := RX8) (T := TX8) (N := 13) hx hb hg inG8 hown hK hP 0 (zw_at (by omega) hs74) rfl 10 (by decide) (hg _ mm_370) (fun _ h9 => h9) rfl dX8_gossip_93 ?_
                  refine va_get (D := g.1) (ci := 4) (v := .int fla85) (C := RX4) (T := TX4) (N := 11) hx hb hg inG4 hown hK hP (99 + 3 * dr75) (zw_at (by omega) hs80) rfl 4 (by decide) (hg _ mm_280) (fun _ h9 => h9) rfl dX8_gossip_96 ?_
                  refine lv_isub hx hb dX8_gossip_99 ?_
                  refine lv_topi (fun x151 ex151 => ?_)
                  exact W.iret (v := x151) hx hb hr (fun t ht hW => ⟨⟨x151, (), rfl, trivial, ct73, by rw [ht]; exact hP, hD, hI⟩, hS.F ht⟩) hS.2.2 dX8_gossip_100
              · skip
                have c23 : ¬ (n.toInt ≤ len20.toInt) := fun q => c23 ((z_le rfl rfl).mpr q)
                refine lv_iconst (v := (-1)) hx hb dX8_gossip_42 (by decide) ?_
                have q152 : ((-1) : Int32).toInt = -1 := by decide
                exact W.iret (v := (-1)) hx hb hr (fun t ht hW => ⟨⟨(-1), (), rfl, trivial, ct, by rw [ht]; exact hP, hD, hI⟩, hS.F ht⟩) hS.2.2 dX8_gossip_43
          · skip
            obtain ⟨rfl, h153⟩ := hr15
            have h153 : ¬ ((1 : Int) ≤ n.toInt ∧ n.toInt ≤ (100 : Int)) := h153
            refine lv_if_eq (tgt := 42) hx hb dX8_gossip_27 (by decide) (fun c154 => ?_) (fun c154 => ?_)
            · skip
              refine lv_iconst (v := (-1)) hx hb dX8_gossip_42 (by decide) ?_
              have q155 : ((-1) : Int32).toInt = -1 := by decide
              exact W.iret (v := (-1)) hx hb hr (fun t ht hW => ⟨⟨(-1), (), rfl, trivial, ct, by rw [ht]; exact hP, hD, hI⟩, hS.F ht⟩) hS.2.2 dX8_gossip_43
            · skip
              exact absurd c154 (by decide)
      · skip
        obtain rfl := hr11
        refine lv_if_eq (tgt := 42) hx hb dX8_gossip_16 (by decide) (fun c156 => ?_) (fun c156 => ?_)
        · skip
          refine lv_iconst (v := (-1)) hx hb dX8_gossip_42 (by decide) ?_
          have q157 : ((-1) : Int32).toInt = -1 := by decide
          exact W.iret (v := (-1)) hx hb hr (fun t ht hW => ⟨⟨(-1), (), rfl, trivial, ct, by rw [ht]; exact hP, hD, hI⟩, hS.F ht⟩) hS.2.2 dX8_gossip_43
        · skip
          exact absurd c156 (by decide)
  · skip
    obtain ⟨rfl, h158⟩ := hr1
    have h158 : ¬ ((0 : Int) ≤ g0.toInt ∧ g0.toInt ≤ (7 : Int)) := h158
    refine lv_if_eq (tgt := 42) hx hb dX8_gossip_7 (by decide) (fun c159 => ?_) (fun c159 => ?_)
    · skip
      refine lv_iconst (v := (-1)) hx hb dX8_gossip_42 (by decide) ?_
      have q160 : ((-1) : Int32).toInt = -1 := by decide
      exact W.iret (v := (-1)) hx hb hr (fun t ht hW => ⟨⟨(-1), (), rfl, trivial, ct, by rw [ht]; exact hP, hD, hI⟩, hS.F ht⟩) hS.2.2 dX8_gossip_43
    · skip
      exact absurd c159 (by decide)

set_option maxHeartbeats 4000000 in
set_option maxRecDepth 100000 in
theorem k_X8_line (l : Launch) (g : zG) (ad : Nat → Nat) (pe : Int32) (ct : Nat → va_E) (b : Int32) (i : Int32) (c0 : Int32) (hI : Inv8 g ad pe ct) : Met l yX8_line (zW yX8_line cX8_line 4 (some .int)) ({ frames := 3, cells := 0, slots := 0, locals := 66 }) (va_Pc [.ref (ad 0), .int b, .int i, .int c0] (zR g (zw 126 ad ct))) (vp_Si (fun r : Int32 => (True))) 0 0 (fun _ => False) := by
  refine Met.ofW (cc := cX8_line) (maxL := 4) (ret := (some .int)) (by decide) rfl ?_
  intro p e s m args below meth c s₁ B hml hv
  obtain ⟨rfl, hP, hK, hN⟩ := hv
  have hx := B.exec
  have hb := B.bytes
  have hr := B.returns
  have hg := zW.law (atoms_spec (ws := (zW yX8_line cX8_line 4 (some .int))) B.pre)
  have hown : s.vm.findClass RX8 = some m.cls := findClass_of_methodNamed B.named
  have hlocks := B.notSynchronized
  have hpe0 := hI.1
  have hl := lv_entry ([.ref (ad 0), .int b, .int i, .int c0]) (n := 4) (Nat.le_of_ble_eq_true rfl)
  rw [lg_entry_eq]
  generalize (lg_sl ([.ref (ad 0), .int b, .int i, .int c0]) ++ List.replicate (4 - (lg_sl ([.ref (ad 0), .int b, .int i, .int c0])).length) Slot.unset).toArray = ls at hl ⊢
  have hl : lv_has ls 4 [(0, .ref (ad 0)), (1, .int b), (2, .int i), (3, .int c0)] := hl
  have rg_b := z_rng b
  have rg_i := z_rng i
  have rg_c0 := z_rng c0
  refine lv_aload_n hx hb dX8_line_0 rfl (lv_at hl 0 rfl) ?_
  refine lv_iload_n hx hb dX8_line_1 rfl (lv_at hl 1 rfl) ?_
  refine lv_iload_n hx hb dX8_line_2 rfl (lv_at hl 2 rfl) ?_
  obtain ⟨bk3, dr2, h4, h5, h6, hs1⟩ := a8_0 hI
  refine zc_i (va_runV (As := [.int b, .int i]) (rest := []) ⟨hx, hb, hml, hown, hg⟩ (k_X8_isLine l g ad pe ct b i hI) (cwV 2 hg (z_gV mm_587 mm_589 mm_19 mm_108 mm_590) rfl rfl rfl (by decide +kernel) ⟨Nat.le_of_ble_eq_true rfl, Nat.le_of_ble_eq_true rfl⟩) ⟨(zR.pre [.ref (ad 0), .int b, .int i] hP hK hN).1, va_recv hK hP (ci := 8) (q0 := 0) rfl (zw_at (by omega) hs1), (zR.pre [.ref (ad 0), .int b, .int i] hP hK hN).2⟩ rfl rfl hl.1 rfl (lv_room (Nat.le_of_ble_eq_true rfl)) dX8_line_3 ⟨Nat.le_of_ble_eq_true rfl, Nat.le_of_ble_eq_true rfl⟩) (fun r7 hr7 => ?_)
  rcases hr7 with hr7 | hr7
  · skip
    obtain ⟨rfl, h8, h9⟩ := hr7
    have h8 : 0 ≤ b.toInt ∧ b.toInt ≤ 3 := h8
    have h9 : 0 ≤ i.toInt ∧ i.toInt ≤ 7 := h9
    refine lv_if_eq (tgt := 18) hx hb dX8_line_6 (by decide) (fun c10 => ?_) (fun c10 => ?_)
    · skip
      exact absurd c10 (by decide)
    · skip
      refine lv_iload_n hx hb dX8_line_9 rfl (lv_at hl 3 rfl) ?_
      refine lv_iconst (v := 0) hx hb dX8_line_10 (by decide) ?_
      refine lv_iconst (v := 4) hx hb dX8_line_11 (by decide) ?_
      refine zc_i (va_runS (As := [.int c0, .int 0, .int 4]) (rest := []) ⟨hx, hb, hml, hown, hg⟩ (k_X8_within l g ad pe ct c0 (0 : Int32) (4 : Int32) hI) (va_cwS 3 hg (z_gS mm_407 mm_408 mm_108 mm_409) rfl rfl rfl (by decide +kernel) ⟨Nat.le_of_ble_eq_true rfl, Nat.le_of_ble_eq_true rfl⟩) (zR.pre [.int c0, .int 0, .int 4] hP hK hN) rfl rfl hl.1 rfl (lv_room (Nat.le_of_ble_eq_true rfl)) dX8_line_12 ⟨Nat.le_of_ble_eq_true rfl, Nat.le_of_ble_eq_true rfl⟩) (fun r11 hr11 => ?_)
      rcases hr11 with hr11 | hr11
      · skip
        obtain ⟨rfl, h12, h13⟩ := hr11
        have h12 : (0 : Int) ≤ c0.toInt := h12
        have h13 : c0.toInt ≤ (4 : Int) := h13
        refine lv_if_ne (tgt := 20) hx hb dX8_line_15 (by decide) (fun c14 => ?_) (fun c14 => ?_)
        · skip
          refine lv_iload_n hx hb dX8_line_20 rfl (lv_at hl 3 rfl) ?_
          refine lv_iconst (v := 4) hx hb dX8_line_21 (by decide) ?_
          refine lv_icmp_ne (tgt := 36) hx hb dX8_line_22 (by decide) (fun c15 => ?_) (fun c15 => ?_)
          · skip
            have c15 : ¬ (c0.toInt = 4) := fun q => c15 ((z_eq rfl (by decide : (4 : Int32).toInt = 4)).mpr q)
            refine lv_aload_n hx hb dX8_line_36 rfl (lv_at hl 0 rfl) ?_
            refine lv_iload_n hx hb dX8_line_37 rfl (lv_at hl 1 rfl) ?_
            refine lv_iload_n hx hb dX8_line_38 rfl (lv_at hl 2 rfl) ?_
            refine zc_i (va_runV (As := [.int b, .int i]) (rest := []) ⟨hx, hb, hml, hown, hg⟩ (k_X8_isLive l g ad pe ct b i hI) (cwV 2 hg (z_gV mm_583 mm_585 mm_18 mm_108 mm_586) rfl rfl rfl (by decide +kernel) ⟨Nat.le_of_ble_eq_true rfl, Nat.le_of_ble_eq_true rfl⟩) ⟨(zR.pre [.ref (ad 0), .int b, .int i] hP hK hN).1, va_recv hK hP (ci := 8) (q0 := 0) rfl (zw_at (by omega) hs1), (zR.pre [.ref (ad 0), .int b, .int i] hP hK hN).2⟩ rfl rfl hl.1 rfl (lv_room (Nat.le_of_ble_eq_true rfl)) dX8_line_39 ⟨Nat.le_of_ble_eq_true rfl, Nat.le_of_ble_eq_true rfl⟩) (fun r16 hr16 => ?_)
            rcases hr16 with hr16 | hr16
            · skip
              obtain ⟨rfl, h17, h18⟩ := hr16
              have h17 : 0 ≤ b.toInt ∧ b.toInt ≤ 3 := h17
              have h18 : 0 ≤ i.toInt ∧ i.toInt ≤ 7 := h18
              refine lv_if_eq (tgt := 59) hx hb dX8_line_42 (by decide) (fun c19 => ?_) (fun c19 => ?_)
              · skip
                exact absurd c19 (by decide)
              · skip
                refine lv_aload_n hx hb dX8_line_45 rfl (lv_at hl 0 rfl) ?_
                refine va_get (D := g.1) (ci := 8) (v := .ref (ad 5)) (C := RX8) (T := TX8) (N := 13) hx hb hg inG8 hown hK hP 0 (zw_at (by omega) hs1) rfl 3 (by decide) (hg _ mm_363) (fun _ h9 => h9) rfl dX8_line_46 ?_
                refine lv_iload_n hx hb dX8_line_49 rfl (lv_at hl 1 rfl) ?_
                have hs20 := a8_5 hI
                refine va_aldq hx hb hK hP 5 5 (zw_at (by omega) hs20) rfl (z_in rfl (by omega) (by omega)) dX8_line_50 ?_
                rw [zF5_at (x := b) (by omega) (by omega)]
                refine lv_iload_n hx hb dX8_line_51 rfl (lv_at hl 2 rfl) ?_
                refine lv_iload_n hx hb dX8_line_52 rfl (lv_at hl 3 rfl) ?_
                obtain ⟨lns22, liv23, shw24, h25, h26, h27, h28, hz29, hs21⟩ := a8_40 (kc := (0 + 55 + 11 * b.toInt.toNat)) (by omega) hI
                have bhz29 := z_b01 hz29
                refine zc_i (va_runV (As := [.int i, .int c0]) (rest := []) ⟨hx, hb, hml, hown, hg⟩ (k_X2_nodeAt l g ad pe ct (0 + 55 + 11 * b.toInt.toNat) i c0 (by omega) hI) (cwV 2 hg (z_gV mm_599 mm_600 mm_601 mm_116 mm_602) rfl rfl rfl (by decide +kernel) ⟨Nat.le_of_ble_eq_true rfl, Nat.le_of_ble_eq_true rfl⟩) ⟨(zR.pre [.ref (ad (0 + 55 + 11 * b.toInt.toNat)), .int i, .int c0] hP hK hN).1, va_recv hK hP (ci := 2) (q0 := (0 + 55 + 11 * b.toInt.toNat)) rfl (zw_at (by omega) hs21), (zR.pre [.ref (ad (0 + 55 + 11 * b.toInt.toNat)), .int i, .int c0] hP hK hN).2⟩ rfl rfl hl.1 rfl (lv_room (Nat.le_of_ble_eq_true rfl)) dX8_line_53 ⟨Nat.le_of_ble_eq_true rfl, Nat.le_of_ble_eq_true rfl⟩) (fun r30 hr30 => ?_)
                refine lv_goto (tgt := 61) hx hb dX8_line_56 (by decide) ?_
                exact W.iret (v := r30) hx hb hr (fun t ht hW => ⟨r30, rfl, trivial, ht⟩) (fun q hq => by cases hq) dX8_line_61
            · skip
              obtain rfl := hr16
              refine lv_if_eq (tgt := 59) hx hb dX8_line_42 (by decide) (fun c31 => ?_) (fun c31 => ?_)
              · skip
                refine lv_bipush (v := (-2)) hx hb dX8_line_59 (by decide) ?_
                have q32 : ((-2) : Int32).toInt = -2 := by decide
                exact W.iret (v := (-2)) hx hb hr (fun t ht hW => ⟨(-2), rfl, trivial, ht⟩) (fun q hq => by cases hq) dX8_line_61
              · skip
                exact absurd c31 (by decide)
          · skip
            have c15 : c0.toInt = 4 := (z_eq rfl (by decide : (4 : Int32).toInt = 4)).mp c15
            refine lv_aload_n hx hb dX8_line_25 rfl (lv_at hl 0 rfl) ?_
            refine va_get (D := g.1) (ci := 8) (v := .ref (ad 5)) (C := RX8) (T := TX8) (N := 13) hx hb hg inG8 hown hK hP 0 (zw_at (by omega) hs1) rfl 3 (by decide) (hg _ mm_363) (fun _ h9 => h9) rfl dX8_line_26 ?_
            refine lv_iload_n hx hb dX8_line_29 rfl (lv_at hl 1 rfl) ?_
            have hs33 := a8_5 hI
            refine va_aldq hx hb hK hP 5 5 (zw_at (by omega) hs33) rfl (z_in rfl (by omega) (by omega)) dX8_line_30 ?_
            rw [zF5_at (x := b) (by omega) (by omega)]
            refine lv_iload_n hx hb dX8_line_31 rfl (lv_at hl 2 rfl) ?_
            obtain ⟨lns35, liv36, shw37, h38, h39, h40, h41, hz42, hs34⟩ := a8_40 (kc := (0 + 55 + 11 * b.toInt.toNat)) (by omega) hI
            have bhz42 := z_b01 hz42
            refine zc_i (va_runV (As := [.int i]) (rest := []) ⟨hx, hb, hml, hown, hg⟩ (k_X2_owner l g ad pe ct (0 + 55 + 11 * b.toInt.toNat) i (by omega) hI) (cwV 1 hg (z_gV mm_565 mm_566 mm_567 mm_116 mm_568) rfl rfl rfl (by decide +kernel) ⟨Nat.le_of_ble_eq_true rfl, Nat.le_of_ble_eq_true rfl⟩) ⟨(zR.pre [.ref (ad (0 + 55 + 11 * b.toInt.toNat)), .int i] hP hK hN).1, va_recv hK hP (ci := 2) (q0 := (0 + 55 + 11 * b.toInt.toNat)) rfl (zw_at (by omega) hs34), (zR.pre [.ref (ad (0 + 55 + 11 * b.toInt.toNat)), .int i] hP hK hN).2⟩ rfl rfl hl.1 rfl (lv_room (Nat.le_of_ble_eq_true rfl)) dX8_line_32 ⟨Nat.le_of_ble_eq_true rfl, Nat.le_of_ble_eq_true rfl⟩) (fun r43 hr43 => ?_)
            exact W.iret (v := r43) hx hb hr (fun t ht hW => ⟨r43, rfl, trivial, ht⟩) (fun q hq => by cases hq) dX8_line_35
        · skip
          exact absurd c14 (by decide)
      · skip
        obtain ⟨rfl, h44⟩ := hr11
        have h44 : ¬ ((0 : Int) ≤ c0.toInt ∧ c0.toInt ≤ (4 : Int)) := h44
        refine lv_if_ne (tgt := 20) hx hb dX8_line_15 (by decide) (fun c45 => ?_) (fun c45 => ?_)
        · skip
          exact absurd c45 (by decide)
        · skip
          refine lv_iconst (v := (-1)) hx hb dX8_line_18 (by decide) ?_
          have q46 : ((-1) : Int32).toInt = -1 := by decide
          exact W.iret (v := (-1)) hx hb hr (fun t ht hW => ⟨(-1), rfl, trivial, ht⟩) (fun q hq => by cases hq) dX8_line_19
  · skip
    obtain rfl := hr7
    refine lv_if_eq (tgt := 18) hx hb dX8_line_6 (by decide) (fun c47 => ?_) (fun c47 => ?_)
    · skip
      refine lv_iconst (v := (-1)) hx hb dX8_line_18 (by decide) ?_
      have q48 : ((-1) : Int32).toInt = -1 := by decide
      exact W.iret (v := (-1)) hx hb hr (fun t ht hW => ⟨(-1), rfl, trivial, ht⟩) (fun q hq => by cases hq) dX8_line_19
    · skip
      exact absurd c47 (by decide)

set_option maxHeartbeats 4000000 in
set_option maxRecDepth 100000 in
theorem k_X8_fits (l : Launch) (g : zG) (sz : Nat) (ad : Nat → Nat) (pe : Int32) (ct : Nat → va_E) (b : Int32) (i : Int32) (kn : Int32) (hI : Inv8 g ad pe ct) : Met l yX8_fits (zW yX8_fits cX8_fits 4 (some .int)) ({ frames := 5, cells := 0, slots := 0, locals := 117 }) (va_Pc [.ref (ad 0), .int b, .int i, .int kn] (zA g (zw 126 ad ct) sz)) (va_Qi (fun (r : Int32) (_ : Unit) => (True)) (fun _ t => ∃ ct2 : Nat → va_E, zP g (zw 126 ad ct2) t.heap ∧ va_D (va_A (zw 126 ad ct) sz) (zw 126 ad ct2) ∧ Inv8 g ad pe ct2) (va_A (zw 126 ad ct) sz)) 0 0 (va_A (zw 126 ad ct) sz) := by
  refine Met.ofW (cc := cX8_fits) (maxL := 4) (ret := (some .int)) (by decide) rfl ?_
  intro p e s m args below meth c s₁ B hml hv
  obtain ⟨rfl, hsz, hP, hK, hD0, hN⟩ := hv
  have hx := B.exec
  have hb := B.bytes
  have hr := B.returns
  have hg := zW.law (atoms_spec (ws := (zW yX8_fits cX8_fits 4 (some .int))) B.pre)
  have hown : s.vm.findClass RX8 = some m.cls := findClass_of_methodNamed B.named
  have hlocks := B.notSynchronized
  have hpe0 := hI.1
  subst hsz
  have hD := hD0.self (sz := s.heap.size)
  generalize hAe : va_A (zw 126 ad ct) s.heap.size = A at hD ⊢
  have hA : ∀ q : Nat, s.heap.size ≤ q → A q := fun q h => by rw [← hAe]; exact Or.inr h
  have hS : va_S A s.heap s.heap [] := va_S.rf
  have hl := lv_entry ([.ref (ad 0), .int b, .int i, .int kn]) (n := 4) (Nat.le_of_ble_eq_true rfl)
  rw [lg_entry_eq]
  generalize (lg_sl ([.ref (ad 0), .int b, .int i, .int kn]) ++ List.replicate (4 - (lg_sl ([.ref (ad 0), .int b, .int i, .int kn])).length) Slot.unset).toArray = ls at hl ⊢
  have hl : lv_has ls 4 [(0, .ref (ad 0)), (1, .int b), (2, .int i), (3, .int kn)] := hl
  have rg_b := z_rng b
  have rg_i := z_rng i
  have rg_kn := z_rng kn
  refine lv_aload_n hx hb dX8_fits_0 rfl (lv_at hl 0 rfl) ?_
  refine lv_iload_n hx hb dX8_fits_1 rfl (lv_at hl 1 rfl) ?_
  refine lv_iload_n hx hb dX8_fits_2 rfl (lv_at hl 2 rfl) ?_
  obtain ⟨bk3, dr2, h4, h5, h6, hs1⟩ := a8_0 hI
  refine zc_i (va_runV (As := [.int b, .int i]) (rest := []) ⟨hx, hb, hml, hown, hg⟩ (k_X8_isLine l g ad pe ct b i hI) (cwV 2 hg (z_gV mm_587 mm_589 mm_19 mm_108 mm_590) rfl rfl rfl (by decide +kernel) ⟨Nat.le_of_ble_eq_true rfl, Nat.le_of_ble_eq_true rfl⟩) ⟨(zR.pre [.ref (ad 0), .int b, .int i] hP hK hN).1, va_recv hK hP (ci := 8) (q0 := 0) rfl (zw_at (by omega) hs1), (zR.pre [.ref (ad 0), .int b, .int i] hP hK hN).2⟩ rfl rfl hl.1 rfl (lv_room (Nat.le_of_ble_eq_true rfl)) dX8_fits_3 ⟨Nat.le_of_ble_eq_true rfl, Nat.le_of_ble_eq_true rfl⟩) (fun r7 hr7 => ?_)
  rcases hr7 with hr7 | hr7
  · skip
    obtain ⟨rfl, h8, h9⟩ := hr7
    have h8 : 0 ≤ b.toInt ∧ b.toInt ≤ 3 := h8
    have h9 : 0 ≤ i.toInt ∧ i.toInt ≤ 7 := h9
    refine lv_if_eq (tgt := 16) hx hb dX8_fits_6 (by decide) (fun c10 => ?_) (fun c10 => ?_)
    · skip
      exact absurd c10 (by decide)
    · skip
      refine lv_iload_n hx hb dX8_fits_9 rfl (lv_at hl 3 rfl) ?_
      refine zc_i (va_runS (As := [.int kn]) (rest := []) ⟨hx, hb, hml, hown, hg⟩ (k_X8_areGossips l g ad pe ct kn hI) (va_cwS 1 hg (z_gS mm_652 mm_653 mm_108 mm_654) rfl rfl rfl (by decide +kernel) ⟨Nat.le_of_ble_eq_true rfl, Nat.le_of_ble_eq_true rfl⟩) (zR.pre [.int kn] hP hK hN) rfl rfl hl.1 rfl (lv_room (Nat.le_of_ble_eq_true rfl)) dX8_fits_10 ⟨Nat.le_of_ble_eq_true rfl, Nat.le_of_ble_eq_true rfl⟩) (fun r11 hr11 => ?_)
      rcases hr11 with hr11 | hr11
      · skip
        obtain ⟨rfl, h12, h13⟩ := hr11
        have h12 : 0 ≤ kn.toInt := h12
        have h13 : kn.toInt ≤ 255 := h13
        refine lv_if_ne (tgt := 18) hx hb dX8_fits_13 (by decide) (fun c14 => ?_) (fun c14 => ?_)
        · skip
          refine lv_aload_n hx hb dX8_fits_18 rfl (lv_at hl 0 rfl) ?_
          refine lv_iload_n hx hb dX8_fits_19 rfl (lv_at hl 1 rfl) ?_
          refine lv_iload_n hx hb dX8_fits_20 rfl (lv_at hl 2 rfl) ?_
          refine zc_i (va_runV (As := [.int b, .int i]) (rest := []) ⟨hx, hb, hml, hown, hg⟩ (k_X8_isLive l g ad pe ct b i hI) (cwV 2 hg (z_gV mm_583 mm_585 mm_18 mm_108 mm_586) rfl rfl rfl (by decide +kernel) ⟨Nat.le_of_ble_eq_true rfl, Nat.le_of_ble_eq_true rfl⟩) ⟨(zR.pre [.ref (ad 0), .int b, .int i] hP hK hN).1, va_recv hK hP (ci := 8) (q0 := 0) rfl (zw_at (by omega) hs1), (zR.pre [.ref (ad 0), .int b, .int i] hP hK hN).2⟩ rfl rfl hl.1 rfl (lv_room (Nat.le_of_ble_eq_true rfl)) dX8_fits_21 ⟨Nat.le_of_ble_eq_true rfl, Nat.le_of_ble_eq_true rfl⟩) (fun r15 hr15 => ?_)
          rcases hr15 with hr15 | hr15
          · skip
            obtain ⟨rfl, h16, h17⟩ := hr15
            have h16 : 0 ≤ b.toInt ∧ b.toInt ≤ 3 := h16
            have h17 : 0 ≤ i.toInt ∧ i.toInt ≤ 7 := h17
            refine lv_if_ne (tgt := 30) hx hb dX8_fits_24 (by decide) (fun c18 => ?_) (fun c18 => ?_)
            · skip
              refine lv_aload_n hx hb dX8_fits_30 rfl (lv_at hl 0 rfl) ?_
              refine lv_iload_n hx hb dX8_fits_31 rfl (lv_at hl 1 rfl) ?_
              refine lv_iload_n hx hb dX8_fits_32 rfl (lv_at hl 3 rfl) ?_
              have hFc := zw_free hD hS hA
              refine va_callv (va_runV (As := [.int b, .int kn]) (rest := []) ⟨hx, hb, hml, hown, hg⟩ (k_X8_fit l g _ ad pe ct b kn (by first | omega | decide) hI) (cwV 2 hg (z_gV mm_655 mm_657 mm_21 mm_108 mm_658) rfl rfl rfl (by decide +kernel) ⟨Nat.le_of_ble_eq_true rfl, Nat.le_of_ble_eq_true rfl⟩) ⟨(zA.pre [.ref (ad 0), .int b, .int kn] hP hK hD hN).1, va_recv hK hP (ci := 8) (q0 := 0) rfl (zw_at (by omega) hs1), (zA.pre [.ref (ad 0), .int b, .int kn] hP hK hD hN).2⟩ rfl rfl hl.1 rfl (lv_room (Nat.le_of_ble_eq_true rfl)) dX8_fits_33 ⟨Nat.le_of_ble_eq_true rfl, Nat.le_of_ble_eq_true rfl⟩) hS (fun q _ h => hFc q h) hFc (fun _ t H1 locs ht hvm hr19 hB hz1 hk1 hS => ?_)
              obtain ⟨ct20, hP1, hD1, hI⟩ := hB
              rw [ht] at hP1
              have hD := hD1.weaken (fun _ _ _ h => hFc _ h)
              generalize H1 = H at hP1 hS ⊢
              have hP := hP1
              refine W.widen (k := 0) (n := 0) (Nat.le_refl _) (Nat.le_refl _) ?_
              refine lv_aload_n hx hb dX8_fits_36 rfl (lv_at hl 0 rfl) ?_
              obtain ⟨bk23, dr22, h24, h25, h26, hs21⟩ := a8_0 hI
              refine va_get (D := g.1) (ci := 8) (v := .ref (ad 10)) (C := RX8) (T := TX8) (N := 13) hx hb hg inG8 hown hK hP 0 (zw_at (by omega) hs21) rfl 6 (by decide) (hg _ mm_366) (fun _ h9 => h9) rfl dX8_fits_37 ?_
              obtain ⟨lns28, liv29, lak30, fnd31, h32, h33, h34, h35, hs27⟩ := a8_10 hI
              refine va_get (D := g.1) (ci := 6) (v := .ref (ad 12)) (C := RX6) (T := TX6) (N := 10) hx hb hg inG6 hown hK hP 10 (zw_at (by omega) hs27) rfl 5 (by decide) (hg _ mm_183) (fun _ h9 => h9) rfl dX8_fits_40 ?_
              refine lv_iload_n hx hb dX8_fits_43 rfl (lv_at hl 2 rfl) ?_
              obtain ⟨f37, hp38, hs36⟩ := a8_12 hI
              refine va_iald hx hb hK hP 12 0 (zw_at (by omega) hs36) rfl (z_in rfl (by omega) (by omega)) dX8_fits_44 ?_
              refine lv_topi (fun y39 ey39 => ?_)
              have hy39 := hp38 _ (z_clt (x := i) rfl (by omega) (by omega))
              rw [← ey39] at hy39
              have hy39 : 0 ≤ y39.toInt ∧ y39.toInt ≤ 65535 := hy39
              exact W.iret (v := y39) hx hb hr (fun t ht hW => ⟨⟨y39, (), rfl, trivial, ct20, by rw [ht]; exact hP, hD, hI⟩, hS.F ht⟩) hS.2.2 dX8_fits_45
            · skip
              exact absurd c18 (by decide)
          · skip
            obtain rfl := hr15
            refine lv_if_ne (tgt := 30) hx hb dX8_fits_24 (by decide) (fun c40 => ?_) (fun c40 => ?_)
            · skip
              exact absurd c40 (by decide)
            · skip
              refine lv_bipush (v := (-2)) hx hb dX8_fits_27 (by decide) ?_
              have q41 : ((-2) : Int32).toInt = -2 := by decide
              exact W.iret (v := (-2)) hx hb hr (fun t ht hW => ⟨⟨(-2), (), rfl, trivial, ct, by rw [ht]; exact hP, hD, hI⟩, hS.F ht⟩) hS.2.2 dX8_fits_29
        · skip
          exact absurd c14 (by decide)
      · skip
        obtain ⟨rfl, h42⟩ := hr11
        have h42 : ¬ (0 ≤ kn.toInt ∧ kn.toInt ≤ 255) := h42
        refine lv_if_ne (tgt := 18) hx hb dX8_fits_13 (by decide) (fun c43 => ?_) (fun c43 => ?_)
        · skip
          exact absurd c43 (by decide)
        · skip
          refine lv_iconst (v := (-1)) hx hb dX8_fits_16 (by decide) ?_
          have q44 : ((-1) : Int32).toInt = -1 := by decide
          exact W.iret (v := (-1)) hx hb hr (fun t ht hW => ⟨⟨(-1), (), rfl, trivial, ct, by rw [ht]; exact hP, hD, hI⟩, hS.F ht⟩) hS.2.2 dX8_fits_17
  · skip
    obtain rfl := hr7
    refine lv_if_eq (tgt := 16) hx hb dX8_fits_6 (by decide) (fun c45 => ?_) (fun c45 => ?_)
    · skip
      refine lv_iconst (v := (-1)) hx hb dX8_fits_16 (by decide) ?_
      have q46 : ((-1) : Int32).toInt = -1 := by decide
      exact W.iret (v := (-1)) hx hb hr (fun t ht hW => ⟨⟨(-1), (), rfl, trivial, ct, by rw [ht]; exact hP, hD, hI⟩, hS.F ht⟩) hS.2.2 dX8_fits_17
    · skip
      exact absurd c45 (by decide)

set_option maxHeartbeats 4000000 in
set_option maxRecDepth 100000 in
theorem k_X8_givings (l : Launch) (g : zG) (sz : Nat) (ad : Nat → Nat) (pe : Int32) (ct : Nat → va_E) (b : Int32) (kn : Int32) (hI : Inv8 g ad pe ct) : Met l yX8_givings (zW yX8_givings cX8_givings 3 (some .long)) ({ frames := 5, cells := 0, slots := 0, locals := 117 }) (va_Pc [.ref (ad 0), .int b, .int kn] (zA g (zw 126 ad ct) sz)) (va_Ql (fun (r : Int64) (_ : Unit) => (True)) (fun _ t => ∃ ct2 : Nat → va_E, zP g (zw 126 ad ct2) t.heap ∧ va_D (va_A (zw 126 ad ct) sz) (zw 126 ad ct2) ∧ Inv8 g ad pe ct2) (va_A (zw 126 ad ct) sz)) 0 0 (va_A (zw 126 ad ct) sz) := by
  refine Met.ofW (cc := cX8_givings) (maxL := 3) (ret := (some .long)) (by decide) rfl ?_
  intro p e s m args below meth c s₁ B hml hv
  obtain ⟨rfl, hsz, hP, hK, hD0, hN⟩ := hv
  have hx := B.exec
  have hb := B.bytes
  have hr := B.returns
  have hg := zW.law (atoms_spec (ws := (zW yX8_givings cX8_givings 3 (some .long))) B.pre)
  have hown : s.vm.findClass RX8 = some m.cls := findClass_of_methodNamed B.named
  have hlocks := B.notSynchronized
  have hpe0 := hI.1
  subst hsz
  have hD := hD0.self (sz := s.heap.size)
  generalize hAe : va_A (zw 126 ad ct) s.heap.size = A at hD ⊢
  have hA : ∀ q : Nat, s.heap.size ≤ q → A q := fun q h => by rw [← hAe]; exact Or.inr h
  have hS : va_S A s.heap s.heap [] := va_S.rf
  have hl := lv_entry ([.ref (ad 0), .int b, .int kn]) (n := 3) (Nat.le_of_ble_eq_true rfl)
  rw [lg_entry_eq]
  generalize (lg_sl ([.ref (ad 0), .int b, .int kn]) ++ List.replicate (3 - (lg_sl ([.ref (ad 0), .int b, .int kn])).length) Slot.unset).toArray = ls at hl ⊢
  have hl : lv_has ls 3 [(0, .ref (ad 0)), (1, .int b), (2, .int kn)] := hl
  have rg_b := z_rng b
  have rg_kn := z_rng kn
  refine lv_aload_n hx hb dX8_givings_0 rfl (lv_at hl 0 rfl) ?_
  refine lv_iload_n hx hb dX8_givings_1 rfl (lv_at hl 1 rfl) ?_
  obtain ⟨bk3, dr2, h4, h5, h6, hs1⟩ := a8_0 hI
  refine zc_i (va_runV (As := [.int b]) (rest := []) ⟨hx, hb, hml, hown, hg⟩ (k_X8_isBook l g ad pe ct b hI) (cwV 1 hg (z_gV mm_591 mm_593 mm_20 mm_108 mm_594) rfl rfl rfl (by decide +kernel) ⟨Nat.le_of_ble_eq_true rfl, Nat.le_of_ble_eq_true rfl⟩) ⟨(zR.pre [.ref (ad 0), .int b] hP hK hN).1, va_recv hK hP (ci := 8) (q0 := 0) rfl (zw_at (by omega) hs1), (zR.pre [.ref (ad 0), .int b] hP hK hN).2⟩ rfl rfl hl.1 rfl (lv_room (Nat.le_of_ble_eq_true rfl)) dX8_givings_2 ⟨Nat.le_of_ble_eq_true rfl, Nat.le_of_ble_eq_true rfl⟩) (fun r7 hr7 => ?_)
  rcases hr7 with hr7 | hr7
  · skip
    obtain ⟨rfl, h8, h9⟩ := hr7
    have h8 : 0 ≤ b.toInt := h8
    have h9 : b.toInt ≤ 3 := h9
    refine lv_if_eq (tgt := 15) hx hb dX8_givings_5 (by decide) (fun c10 => ?_) (fun c10 => ?_)
    · skip
      exact absurd c10 (by decide)
    · skip
      refine lv_iload_n hx hb dX8_givings_8 rfl (lv_at hl 2 rfl) ?_
      refine zc_i (va_runS (As := [.int kn]) (rest := []) ⟨hx, hb, hml, hown, hg⟩ (k_X8_areGossips l g ad pe ct kn hI) (va_cwS 1 hg (z_gS mm_652 mm_653 mm_108 mm_654) rfl rfl rfl (by decide +kernel) ⟨Nat.le_of_ble_eq_true rfl, Nat.le_of_ble_eq_true rfl⟩) (zR.pre [.int kn] hP hK hN) rfl rfl hl.1 rfl (lv_room (Nat.le_of_ble_eq_true rfl)) dX8_givings_9 ⟨Nat.le_of_ble_eq_true rfl, Nat.le_of_ble_eq_true rfl⟩) (fun r11 hr11 => ?_)
      rcases hr11 with hr11 | hr11
      · skip
        obtain ⟨rfl, h12, h13⟩ := hr11
        have h12 : 0 ≤ kn.toInt := h12
        have h13 : kn.toInt ≤ 255 := h13
        refine lv_if_ne (tgt := 19) hx hb dX8_givings_12 (by decide) (fun c14 => ?_) (fun c14 => ?_)
        · skip
          refine lv_aload_n hx hb dX8_givings_19 rfl (lv_at hl 0 rfl) ?_
          refine lv_iload_n hx hb dX8_givings_20 rfl (lv_at hl 1 rfl) ?_
          refine lv_iload_n hx hb dX8_givings_21 rfl (lv_at hl 2 rfl) ?_
          have hFc := zw_free hD hS hA
          refine va_callv (va_runV (As := [.int b, .int kn]) (rest := []) ⟨hx, hb, hml, hown, hg⟩ (k_X8_fit l g _ ad pe ct b kn (by first | omega | decide) hI) (cwV 2 hg (z_gV mm_655 mm_657 mm_21 mm_108 mm_658) rfl rfl rfl (by decide +kernel) ⟨Nat.le_of_ble_eq_true rfl, Nat.le_of_ble_eq_true rfl⟩) ⟨(zA.pre [.ref (ad 0), .int b, .int kn] hP hK hD hN).1, va_recv hK hP (ci := 8) (q0 := 0) rfl (zw_at (by omega) hs1), (zA.pre [.ref (ad 0), .int b, .int kn] hP hK hD hN).2⟩ rfl rfl hl.1 rfl (lv_room (Nat.le_of_ble_eq_true rfl)) dX8_givings_22 ⟨Nat.le_of_ble_eq_true rfl, Nat.le_of_ble_eq_true rfl⟩) hS (fun q _ h => hFc q h) hFc (fun _ t H1 locs ht hvm hr15 hB hz1 hk1 hS => ?_)
          obtain ⟨ct16, hP1, hD1, hI⟩ := hB
          rw [ht] at hP1
          have hD := hD1.weaken (fun _ _ _ h => hFc _ h)
          generalize H1 = H at hP1 hS ⊢
          have hP := hP1
          refine W.widen (k := 0) (n := 0) (Nat.le_refl _) (Nat.le_refl _) ?_
          refine lv_aload_n hx hb dX8_givings_25 rfl (lv_at hl 0 rfl) ?_
          obtain ⟨bk19, dr18, h20, h21, h22, hs17⟩ := a8_0 hI
          refine va_get (D := g.1) (ci := 8) (v := .ref (ad 10)) (C := RX8) (T := TX8) (N := 13) hx hb hg inG8 hown hK hP 0 (zw_at (by omega) hs17) rfl 6 (by decide) (hg _ mm_366) (fun _ h9 => h9) rfl dX8_givings_26 ?_
          obtain ⟨lns24, liv25, lak26, fnd27, h28, h29, h30, h31, hs23⟩ := a8_10 hI
          have hFc := zw_free hD hS hA
          refine va_calll (va_runV (As := []) (rest := []) ⟨hx, hb, hml, hown, hg⟩ (k_X6_number l g _ ad pe ct16  hI) (cwV 0 hg (z_gV mm_700 mm_701 mm_702 mm_111 mm_703) rfl rfl rfl (by decide +kernel) ⟨Nat.le_of_ble_eq_true rfl, Nat.le_of_ble_eq_true rfl⟩) ⟨(zA.pre [.ref (ad 10)] hP hK hD hN).1, va_recv hK hP (ci := 6) (q0 := 10) rfl (zw_at (by omega) hs23), (zA.pre [.ref (ad 10)] hP hK hD hN).2⟩ rfl rfl hl.1 rfl (lv_room (Nat.le_of_ble_eq_true rfl)) dX8_givings_29 ⟨Nat.le_of_ble_eq_true rfl, Nat.le_of_ble_eq_true rfl⟩) hS (fun q _ h => hFc q h) hFc (fun r32 _ t H1 locs ht hvm hr32 hB hz1 hk1 hS => ?_)
          obtain ⟨ct33, hP1, hD1, hI⟩ := hB
          rw [ht] at hP1
          have hD := hD1.weaken (fun _ _ _ h => hFc _ h)
          generalize H1 = H at hP1 hS ⊢
          have hP := hP1
          refine W.widen (k := 0) (n := 0) (Nat.le_refl _) (Nat.le_refl _) ?_
          exact W.lret (v := r32) hx hb hr (fun t ht hW => ⟨⟨r32, (), rfl, trivial, ct33, by rw [ht]; exact hP, hD, hI⟩, hS.F ht⟩) hS.2.2 dX8_givings_32
        · skip
          exact absurd c14 (by decide)
      · skip
        obtain ⟨rfl, h34⟩ := hr11
        have h34 : ¬ (0 ≤ kn.toInt ∧ kn.toInt ≤ 255) := h34
        refine lv_if_ne (tgt := 19) hx hb dX8_givings_12 (by decide) (fun c35 => ?_) (fun c35 => ?_)
        · skip
          exact absurd c35 (by decide)
        · skip
          refine lv_ldc2 hx hb hown (hg _ mm_699) dX8_givings_15 ?_
          exact W.lret (v := (-1)) hx hb hr (fun t ht hW => ⟨⟨(-1), (), rfl, trivial, ct, by rw [ht]; exact hP, hD, hI⟩, hS.F ht⟩) hS.2.2 dX8_givings_18
  · skip
    obtain rfl := hr7
    refine lv_if_eq (tgt := 15) hx hb dX8_givings_5 (by decide) (fun c36 => ?_) (fun c36 => ?_)
    · skip
      refine lv_ldc2 hx hb hown (hg _ mm_699) dX8_givings_15 ?_
      exact W.lret (v := (-1)) hx hb hr (fun t ht hW => ⟨⟨(-1), (), rfl, trivial, ct, by rw [ht]; exact hP, hD, hI⟩, hS.F ht⟩) hS.2.2 dX8_givings_18
    · skip
      exact absurd c36 (by decide)

set_option maxHeartbeats 4000000 in
set_option maxRecDepth 100000 in
theorem k_X8_odds (l : Launch) (g : zG) (sz : Nat) (ad : Nat → Nat) (pe : Int32) (ct : Nat → va_E) (b : Int32) (i : Int32) (p0 : Int32) (kn : Int32) (wh : Int32) (hI : Inv8 g ad pe ct) : Met l yX8_odds (zW yX8_odds cX8_odds 12 (some .long)) ({ frames := 5, cells := 0, slots := 0, locals := 117 }) (va_Pc [.ref (ad 0), .int b, .int i, .int p0, .int kn, .int wh] (zA g (zw 126 ad ct) sz)) (va_Ql (fun (r : Int64) (_ : Unit) => (True)) (fun _ t => ∃ ct2 : Nat → va_E, zP g (zw 126 ad ct2) t.heap ∧ va_D (va_A (zw 126 ad ct) sz) (zw 126 ad ct2) ∧ Inv8 g ad pe ct2) (va_A (zw 126 ad ct) sz)) 0 0 (va_A (zw 126 ad ct) sz) := by
  refine Met.ofW (cc := cX8_odds) (maxL := 12) (ret := (some .long)) (by decide) rfl ?_
  intro p e s m args below meth c s₁ B hml hv
  obtain ⟨rfl, hsz, hP, hK, hD0, hN⟩ := hv
  have hx := B.exec
  have hb := B.bytes
  have hr := B.returns
  have hg := zW.law (atoms_spec (ws := (zW yX8_odds cX8_odds 12 (some .long))) B.pre)
  have hown : s.vm.findClass RX8 = some m.cls := findClass_of_methodNamed B.named
  have hlocks := B.notSynchronized
  have hpe0 := hI.1
  subst hsz
  have hD := hD0.self (sz := s.heap.size)
  generalize hAe : va_A (zw 126 ad ct) s.heap.size = A at hD ⊢
  have hA : ∀ q : Nat, s.heap.size ≤ q → A q := fun q h => by rw [← hAe]; exact Or.inr h
  have hS : va_S A s.heap s.heap [] := va_S.rf
  have hl := lv_entry ([.ref (ad 0), .int b, .int i, .int p0, .int kn, .int wh]) (n := 12) (Nat.le_of_ble_eq_true rfl)
  rw [lg_entry_eq]
  generalize (lg_sl ([.ref (ad 0), .int b, .int i, .int p0, .int kn, .int wh]) ++ List.replicate (12 - (lg_sl ([.ref (ad 0), .int b, .int i, .int p0, .int kn, .int wh])).length) Slot.unset).toArray = ls at hl ⊢
  have hl : lv_has ls 12 [(0, .ref (ad 0)), (1, .int b), (2, .int i), (3, .int p0), (4, .int kn), (5, .int wh)] := hl
  have rg_b := z_rng b
  have rg_i := z_rng i
  have rg_p0 := z_rng p0
  have rg_kn := z_rng kn
  have rg_wh := z_rng wh
  refine lv_aload_n hx hb dX8_odds_0 rfl (lv_at hl 0 rfl) ?_
  refine lv_iload_n hx hb dX8_odds_1 rfl (lv_at hl 1 rfl) ?_
  refine lv_iload_n hx hb dX8_odds_2 rfl (lv_at hl 2 rfl) ?_
  obtain ⟨bk3, dr2, h4, h5, h6, hs1⟩ := a8_0 hI
  refine zc_i (va_runV (As := [.int b, .int i]) (rest := []) ⟨hx, hb, hml, hown, hg⟩ (k_X8_isLine l g ad pe ct b i hI) (cwV 2 hg (z_gV mm_587 mm_589 mm_19 mm_108 mm_590) rfl rfl rfl (by decide +kernel) ⟨Nat.le_of_ble_eq_true rfl, Nat.le_of_ble_eq_true rfl⟩) ⟨(zR.pre [.ref (ad 0), .int b, .int i] hP hK hN).1, va_recv hK hP (ci := 8) (q0 := 0) rfl (zw_at (by omega) hs1), (zR.pre [.ref (ad 0), .int b, .int i] hP hK hN).2⟩ rfl rfl hl.1 rfl (lv_room (Nat.le_of_ble_eq_true rfl)) dX8_odds_3 ⟨Nat.le_of_ble_eq_true rfl, Nat.le_of_ble_eq_true rfl⟩) (fun r7 hr7 => ?_)
  rcases hr7 with hr7 | hr7
  · skip
    obtain ⟨rfl, h8, h9⟩ := hr7
    have h8 : 0 ≤ b.toInt ∧ b.toInt ≤ 3 := h8
    have h9 : 0 ≤ i.toInt ∧ i.toInt ≤ 7 := h9
    refine lv_if_eq (tgt := 35) hx hb dX8_odds_6 (by decide) (fun c10 => ?_) (fun c10 => ?_)
    · skip
      exact absurd c10 (by decide)
    · skip
      refine lv_aload_n hx hb dX8_odds_9 rfl (lv_at hl 0 rfl) ?_
      refine lv_iload_n hx hb dX8_odds_10 rfl (lv_at hl 3 rfl) ?_
      refine zc_i (va_runV (As := [.int p0]) (rest := []) ⟨hx, hb, hml, hown, hg⟩ (k_X8_isPerson l g ad pe ct p0 hI) (cwV 1 hg (z_gV mm_451 mm_453 mm_3 mm_108 mm_454) rfl rfl rfl (by decide +kernel) ⟨Nat.le_of_ble_eq_true rfl, Nat.le_of_ble_eq_true rfl⟩) ⟨(zR.pre [.ref (ad 0), .int p0] hP hK hN).1, va_recv hK hP (ci := 8) (q0 := 0) rfl (zw_at (by omega) hs1), (zR.pre [.ref (ad 0), .int p0] hP hK hN).2⟩ rfl rfl hl.1 rfl (lv_room (Nat.le_of_ble_eq_true rfl)) dX8_odds_11 ⟨Nat.le_of_ble_eq_true rfl, Nat.le_of_ble_eq_true rfl⟩) (fun r11 hr11 => ?_)
      rcases hr11 with hr11 | hr11
      · skip
        obtain ⟨rfl, h12, h13⟩ := hr11
        have h12 : 0 ≤ p0.toInt := h12
        have h13 : p0.toInt < pe.toInt := h13
        refine lv_if_eq (tgt := 35) hx hb dX8_odds_14 (by decide) (fun c14 => ?_) (fun c14 => ?_)
        · skip
          exact absurd c14 (by decide)
        · skip
          refine lv_iload hx hb dX8_odds_17 (lv_at hl 4 rfl) ?_
          refine zc_i (va_runS (As := [.int kn]) (rest := []) ⟨hx, hb, hml, hown, hg⟩ (k_X8_areGossips l g ad pe ct kn hI) (va_cwS 1 hg (z_gS mm_652 mm_653 mm_108 mm_654) rfl rfl rfl (by decide +kernel) ⟨Nat.le_of_ble_eq_true rfl, Nat.le_of_ble_eq_true rfl⟩) (zR.pre [.int kn] hP hK hN) rfl rfl hl.1 rfl (lv_room (Nat.le_of_ble_eq_true rfl)) dX8_odds_19 ⟨Nat.le_of_ble_eq_true rfl, Nat.le_of_ble_eq_true rfl⟩) (fun r15 hr15 => ?_)
          rcases hr15 with hr15 | hr15
          · skip
            obtain ⟨rfl, h16, h17⟩ := hr15
            have h16 : 0 ≤ kn.toInt := h16
            have h17 : kn.toInt ≤ 255 := h17
            refine lv_if_eq (tgt := 35) hx hb dX8_odds_22 (by decide) (fun c18 => ?_) (fun c18 => ?_)
            · skip
              exact absurd c18 (by decide)
            · skip
              refine lv_iload hx hb dX8_odds_25 (lv_at hl 5 rfl) ?_
              refine lv_iconst (v := 0) hx hb dX8_odds_27 (by decide) ?_
              refine lv_iconst (v := 1) hx hb dX8_odds_28 (by decide) ?_
              refine zc_i (va_runS (As := [.int wh, .int 0, .int 1]) (rest := []) ⟨hx, hb, hml, hown, hg⟩ (k_X8_within l g ad pe ct wh (0 : Int32) (1 : Int32) hI) (va_cwS 3 hg (z_gS mm_407 mm_408 mm_108 mm_409) rfl rfl rfl (by decide +kernel) ⟨Nat.le_of_ble_eq_true rfl, Nat.le_of_ble_eq_true rfl⟩) (zR.pre [.int wh, .int 0, .int 1] hP hK hN) rfl rfl hl.1 rfl (lv_room (Nat.le_of_ble_eq_true rfl)) dX8_odds_29 ⟨Nat.le_of_ble_eq_true rfl, Nat.le_of_ble_eq_true rfl⟩) (fun r19 hr19 => ?_)
              rcases hr19 with hr19 | hr19
              · skip
                obtain ⟨rfl, h20, h21⟩ := hr19
                have h20 : (0 : Int) ≤ wh.toInt := h20
                have h21 : wh.toInt ≤ (1 : Int) := h21
                refine lv_if_ne (tgt := 39) hx hb dX8_odds_32 (by decide) (fun c22 => ?_) (fun c22 => ?_)
                · skip
                  refine lv_aload_n hx hb dX8_odds_39 rfl (lv_at hl 0 rfl) ?_
                  refine lv_iload_n hx hb dX8_odds_40 rfl (lv_at hl 1 rfl) ?_
                  refine lv_iload_n hx hb dX8_odds_41 rfl (lv_at hl 2 rfl) ?_
                  refine zc_i (va_runV (As := [.int b, .int i]) (rest := []) ⟨hx, hb, hml, hown, hg⟩ (k_X8_isLive l g ad pe ct b i hI) (cwV 2 hg (z_gV mm_583 mm_585 mm_18 mm_108 mm_586) rfl rfl rfl (by decide +kernel) ⟨Nat.le_of_ble_eq_true rfl, Nat.le_of_ble_eq_true rfl⟩) ⟨(zR.pre [.ref (ad 0), .int b, .int i] hP hK hN).1, va_recv hK hP (ci := 8) (q0 := 0) rfl (zw_at (by omega) hs1), (zR.pre [.ref (ad 0), .int b, .int i] hP hK hN).2⟩ rfl rfl hl.1 rfl (lv_room (Nat.le_of_ble_eq_true rfl)) dX8_odds_42 ⟨Nat.le_of_ble_eq_true rfl, Nat.le_of_ble_eq_true rfl⟩) (fun r23 hr23 => ?_)
                  rcases hr23 with hr23 | hr23
                  · skip
                    obtain ⟨rfl, h24, h25⟩ := hr23
                    have h24 : 0 ≤ b.toInt ∧ b.toInt ≤ 3 := h24
                    have h25 : 0 ≤ i.toInt ∧ i.toInt ≤ 7 := h25
                    refine lv_if_ne (tgt := 52) hx hb dX8_odds_45 (by decide) (fun c26 => ?_) (fun c26 => ?_)
                    · skip
                      refine lv_aload_n hx hb dX8_odds_52 rfl (lv_at hl 0 rfl) ?_
                      refine lv_iload_n hx hb dX8_odds_53 rfl (lv_at hl 1 rfl) ?_
                      refine lv_iload hx hb dX8_odds_54 (lv_at hl 4 rfl) ?_
                      have hFc := zw_free hD hS hA
                      refine va_callv (va_runV (As := [.int b, .int kn]) (rest := []) ⟨hx, hb, hml, hown, hg⟩ (k_X8_fit l g _ ad pe ct b kn (by first | omega | decide) hI) (cwV 2 hg (z_gV mm_655 mm_657 mm_21 mm_108 mm_658) rfl rfl rfl (by decide +kernel) ⟨Nat.le_of_ble_eq_true rfl, Nat.le_of_ble_eq_true rfl⟩) ⟨(zA.pre [.ref (ad 0), .int b, .int kn] hP hK hD hN).1, va_recv hK hP (ci := 8) (q0 := 0) rfl (zw_at (by omega) hs1), (zA.pre [.ref (ad 0), .int b, .int kn] hP hK hD hN).2⟩ rfl rfl hl.1 rfl (lv_room (Nat.le_of_ble_eq_true rfl)) dX8_odds_56 ⟨Nat.le_of_ble_eq_true rfl, Nat.le_of_ble_eq_true rfl⟩) hS (fun q _ h => hFc q h) hFc (fun _ t H1 locs ht hvm hr27 hB hz1 hk1 hS => ?_)
                      obtain ⟨ct28, hP1, hD1, hI⟩ := hB
                      rw [ht] at hP1
                      have hD := hD1.weaken (fun _ _ _ h => hFc _ h)
                      generalize H1 = H at hP1 hS ⊢
                      have hP := hP1
                      refine W.widen (k := 0) (n := 0) (Nat.le_refl _) (Nat.le_refl _) ?_
                      refine lv_aload_n hx hb dX8_odds_59 rfl (lv_at hl 0 rfl) ?_
                      obtain ⟨bk31, dr30, h32, h33, h34, hs29⟩ := a8_0 hI
                      refine va_get (D := g.1) (ci := 8) (v := .ref (ad 10)) (C := RX8) (T := TX8) (N := 13) hx hb hg inG8 hown hK hP 0 (zw_at (by omega) hs29) rfl 6 (by decide) (hg _ mm_366) (fun _ h9 => h9) rfl dX8_odds_60 ?_
                      obtain ⟨lns36, liv37, lak38, fnd39, h40, h41, h42, h43, hs35⟩ := a8_10 hI
                      have hFc := zw_free hD hS hA
                      refine va_calll (va_runV (As := []) (rest := []) ⟨hx, hb, hml, hown, hg⟩ (k_X6_number l g _ ad pe ct28  hI) (cwV 0 hg (z_gV mm_700 mm_701 mm_702 mm_111 mm_703) rfl rfl rfl (by decide +kernel) ⟨Nat.le_of_ble_eq_true rfl, Nat.le_of_ble_eq_true rfl⟩) ⟨(zA.pre [.ref (ad 10)] hP hK hD hN).1, va_recv hK hP (ci := 6) (q0 := 10) rfl (zw_at (by omega) hs35), (zA.pre [.ref (ad 10)] hP hK hD hN).2⟩ rfl rfl hl.1 rfl (lv_room (Nat.le_of_ble_eq_true rfl)) dX8_odds_63 ⟨Nat.le_of_ble_eq_true rfl, Nat.le_of_ble_eq_true rfl⟩) hS (fun q _ h => hFc q h) hFc (fun r44 _ t H1 locs ht hvm hr44 hB hz1 hk1 hS => ?_)
                      obtain ⟨ct45, hP1, hD1, hI⟩ := hB
                      rw [ht] at hP1
                      have hD := hD1.weaken (fun _ _ _ h => hFc _ h)
                      generalize H1 = H at hP1 hS ⊢
                      have hP := hP1
                      refine W.widen (k := 0) (n := 0) (Nat.le_refl _) (Nat.le_refl _) ?_
                      refine lv_lstore (lv' := [(6, .long r44), (0, .ref (ad 0)), (1, .int b), (2, .int i), (3, .int p0), (4, .int kn), (5, .int wh)]) hx hb dX8_odds_66 hl (by decide) rfl (fun ls hl => ?_)
                      refine lv_lload hx hb dX8_odds_68 (lv_at hl 0 rfl) ?_
                      refine lv_lconst (v := 0) hx hb dX8_odds_70 (by decide) ?_
                      refine W.lcmp hx hb dX8_odds_71 ?_
                      refine lv_if_ne (tgt := 79) hx hb dX8_odds_72 (by decide) (fun c46 => ?_) (fun c46 => ?_)
                      · skip
                        have c46 := fun q => c46 ((lg_cmp_eq _ _).mpr q)
                        have c46 : ¬ (r44 = (0 : Int64)) := c46
                        refine lv_aload_n hx hb dX8_odds_79 rfl (lv_at hl 1 rfl) ?_
                        obtain ⟨bk49, dr48, h50, h51, h52, hs47⟩ := a8_0 hI
                        refine va_get (D := g.1) (ci := 8) (v := .ref (ad 10)) (C := RX8) (T := TX8) (N := 13) hx hb hg inG8 hown hK hP 0 (zw_at (by omega) hs47) rfl 6 (by decide) (hg _ mm_366) (fun _ h9 => h9) rfl dX8_odds_80 ?_
                        obtain ⟨lns54, liv55, lak56, fnd57, h58, h59, h60, h61, hs53⟩ := a8_10 hI
                        refine va_get (D := g.1) (ci := 6) (v := .ref (ad 12)) (C := RX6) (T := TX6) (N := 10) hx hb hg inG6 hown hK hP 10 (zw_at (by omega) hs53) rfl 5 (by decide) (hg _ mm_183) (fun _ h9 => h9) rfl dX8_odds_83 ?_
                        refine lv_iload_n hx hb dX8_odds_86 rfl (lv_at hl 3 rfl) ?_
                        refine lv_dup2_11 hx hb dX8_odds_87 rfl rfl ?_
                        obtain ⟨f63, hp64, hs62⟩ := a8_12 hI
                        refine va_iald hx hb hK hP 12 0 (zw_at (by omega) hs62) rfl (z_in rfl (by omega) (by omega)) dX8_odds_88 ?_
                        refine lv_topi (fun y65 ey65 => ?_)
                        have hy65 := hp64 _ (z_clt (x := i) rfl (by omega) (by omega))
                        rw [← ey65] at hy65
                        have hy65 : 0 ≤ y65.toInt ∧ y65.toInt ≤ 65535 := hy65
                        refine lv_iconst (v := 1) hx hb dX8_odds_89 (by decide) ?_
                        refine lv_iload_n hx hb dX8_odds_90 rfl (lv_at hl 4 rfl) ?_
                        refine lv_ishl hx hb dX8_odds_91 ?_
                        refine lv_topi (fun x66 ex66 => ?_)
                        have tx66 := z_shl1 (y := p0) rfl (by omega) (k := 15) (by decide) (by omega)
                        rw [← ex66] at tx66
                        refine lv_iand hx hb dX8_odds_92 ?_
                        refine lv_topi (fun x67 ex67 => ?_)
                        have tx67 := z_andr (x := y65) (y := x66) rfl (by omega)
                        rw [← ex67] at tx67
                        refine va_iast hx hb hK hP hD hS 12 0 (zw_at (by omega) hs62) rfl (z_in rfl (by omega) (by omega)) dX8_odds_93 (fun H locs hP hD hS => ?_)
                        have hp69 : ∀ j : Nat, j < 8 → (fun x : Int32 => 0 ≤ x.toInt ∧ x.toInt ≤ 65535) ((upd f63 (Int32.toNatClampNeg i) x67) j) := fun j hj => by
                          unfold upd
                          by_cases q : j = Int32.toNatClampNeg i
                          · rw [if_pos q]; exact (show 0 ≤ (x67 : Int32).toInt ∧ (x67 : Int32).toInt ≤ 65535 from (by first | omega | decide))
                          · rw [if_neg q]; exact hp64 j hj
                        have hP : zP g ((zw 126 ad ct45).set 12 (ad 12, .inl (g.2 0, 8, .inl (upd f63 (Int32.toNatClampNeg i) x67)))) H := hP
                        have hD : va_D A ((zw 126 ad ct45).set 12 (ad 12, .inl (g.2 0, 8, .inl (upd f63 (Int32.toNatClampNeg i) x67)))) := hD
                        rw [zw_set (by omega)] at hP hD
                        obtain ⟨ct70, ec71⟩ : ∃ z : Nat → va_E, z = va_up ct45 12 (.inl (g.2 0, 8, .inl (upd f63 (Int32.toNatClampNeg i) x67))) := ⟨_, rfl⟩
                        rw [← ec71] at hP hD
                        have hI : Inv8 g ad pe ct70 := by rw [ec71]; exact up8 hI (i8_12 ⟨_, hp69, rfl⟩)
                        have hs72 : ct70 0 = .inr (8, [.ref (ad 1), .ref (ad 2), .ref (ad 3), .ref (ad 5), .ref (ad 6), .ref (ad 9), .ref (ad 10), .ref (ad 17), .ref (ad 21), .ref (ad 34), .ref (ad (99 + 3 * dr48)), .int pe, .int bk49]) := by rw [ec71, va_up_ne _ _ (by omega)]; exact hs47
                        have hs73 : ct70 10 = .inr (6, [.int lns54, .int liv55, .int lak56, .int fnd57, .ref (ad 11), .ref (ad 12), .ref (ad 13), .ref (ad 14), .ref (ad 15), .ref (ad 16)]) := by rw [ec71, va_up_ne _ _ (by omega)]; exact hs53
                        have hs74 : ct70 12 = .inl (g.2 0, 8, .inl (upd f63 (Int32.toNatClampNeg i) x67)) := by rw [ec71]; exact va_up_self _ _ _
                        refine lv_aload_n hx hb dX8_odds_94 rfl (lv_at hl 1 rfl) ?_
                        refine va_get (D := g.1) (ci := 8) (v := .ref (ad 10)) (C := RX8) (T := TX8) (N := 13) hx hb hg inG8 hown hK hP 0 (zw_at (by omega) hs72) rfl 6 (by decide) (hg _ mm_366) (fun _ h9 => h9) rfl dX8_odds_95 ?_
                        have hFc := zw_free hD hS hA
                        refine va_calll (va_runV (As := []) (rest := []) ⟨hx, hb, hml, hown, hg⟩ (k_X6_number l g _ ad pe ct70  hI) (cwV 0 hg (z_gV mm_700 mm_701 mm_702 mm_111 mm_703) rfl rfl rfl (by decide +kernel) ⟨Nat.le_of_ble_eq_true rfl, Nat.le_of_ble_eq_true rfl⟩) ⟨(zA.pre [.ref (ad 10)] hP hK hD hN).1, va_recv hK hP (ci := 6) (q0 := 10) rfl (zw_at (by omega) hs73), (zA.pre [.ref (ad 10)] hP hK hD hN).2⟩ rfl rfl hl.1 rfl (lv_room (Nat.le_of_ble_eq_true rfl)) dX8_odds_98 ⟨Nat.le_of_ble_eq_true rfl, Nat.le_of_ble_eq_true rfl⟩) hS (fun q _ h => hFc q h) hFc (fun r75 _ t H1 locs ht hvm hr75 hB hz1 hk1 hS => ?_)
                        obtain ⟨ct76, hP1, hD1, hI⟩ := hB
                        rw [ht] at hP1
                        have hD := hD1.weaken (fun _ _ _ h => hFc _ h)
                        generalize H1 = H at hP1 hS ⊢
                        have hP := hP1
                        refine W.widen (k := 0) (n := 0) (Nat.le_refl _) (Nat.le_refl _) ?_
                        refine lv_lstore (lv' := [(8, .long r75), (6, .long r44), (0, .ref (ad 0)), (1, .int b), (2, .int i), (3, .int p0), (4, .int kn), (5, .int wh)]) hx hb dX8_odds_101 hl (by decide) rfl (fun ls hl => ?_)
                        refine lv_lload hx hb dX8_odds_103 (lv_at hl 0 rfl) ?_
                        refine lv_lload hx hb dX8_odds_105 (lv_at hl 1 rfl) ?_
                        refine zc_l (va_runS (As := [.long r75, .long r44]) (rest := []) ⟨hx, hb, hml, hown, hg⟩ (k_X8_commonDivisor l g ad pe ct76 r75 r44 hI) (va_cwS 2 hg (z_gS mm_713 mm_714 mm_108 mm_715) rfl rfl rfl (by decide +kernel) ⟨Nat.le_of_ble_eq_true rfl, Nat.le_of_ble_eq_true rfl⟩) (zR.pre [.long r75, .long r44] hP hK hN) rfl rfl hl.1 rfl (lv_room (Nat.le_of_ble_eq_true rfl)) dX8_odds_107 ⟨Nat.le_of_ble_eq_true rfl, Nat.le_of_ble_eq_true rfl⟩) (fun r77 hr77 => ?_)
                        refine lv_lstore (lv' := [(10, .long r77), (8, .long r75), (6, .long r44), (0, .ref (ad 0)), (1, .int b), (2, .int i), (3, .int p0), (4, .int kn), (5, .int wh)]) hx hb dX8_odds_110 hl (by decide) rfl (fun ls hl => ?_)
                        refine lv_lload hx hb dX8_odds_112 (lv_at hl 0 rfl) ?_
                        refine lv_lconst (v := 0) hx hb dX8_odds_114 (by decide) ?_
                        refine W.lcmp hx hb dX8_odds_115 ?_
                        refine lv_if_ne (tgt := 123) hx hb dX8_odds_116 (by decide) (fun c78 => ?_) (fun c78 => ?_)
                        · skip
                          have c78 := fun q => c78 ((lg_cmp_eq _ _).mpr q)
                          have c78 : ¬ (r77 = (0 : Int64)) := c78
                          refine lv_iload hx hb dX8_odds_123 (lv_at hl 8 rfl) ?_
                          refine lv_if_ne (tgt := 136) hx hb dX8_odds_125 (by decide) (fun c79 => ?_) (fun c79 => ?_)
                          · skip
                            have c79 : ¬ (wh.toInt = 0) := fun q => c79 ((z_eq rfl (by decide : (0 : Int32).toInt = 0)).mpr q)
                            refine lv_lload hx hb dX8_odds_136 (lv_at hl 2 rfl) ?_
                            refine lv_lload hx hb dX8_odds_138 (lv_at hl 0 rfl) ?_
                            refine lv_ldiv hx hb dX8_odds_140 (by assumption) ?_
                            refine lv_topl (fun x80 ex80 => ?_)
                            exact W.lret (v := x80) hx hb hr (fun t ht hW => ⟨⟨x80, (), rfl, trivial, ct76, by rw [ht]; exact hP, hD, hI⟩, hS.F ht⟩) hS.2.2 dX8_odds_141
                          · skip
                            have c79 : wh.toInt = 0 := (z_eq rfl (by decide : (0 : Int32).toInt = 0)).mp c79
                            refine lv_lload hx hb dX8_odds_128 (lv_at hl 1 rfl) ?_
                            refine lv_lload hx hb dX8_odds_130 (lv_at hl 0 rfl) ?_
                            refine lv_ldiv hx hb dX8_odds_132 (by assumption) ?_
                            refine lv_topl (fun x81 ex81 => ?_)
                            refine lv_goto (tgt := 141) hx hb dX8_odds_133 (by decide) ?_
                            exact W.lret (v := x81) hx hb hr (fun t ht hW => ⟨⟨x81, (), rfl, trivial, ct76, by rw [ht]; exact hP, hD, hI⟩, hS.F ht⟩) hS.2.2 dX8_odds_141
                        · skip
                          have c78 := (lg_cmp_eq _ _).mp c78
                          refine lv_ldc2 hx hb hown (hg _ mm_712) dX8_odds_119 ?_
                          exact W.lret (v := (-2)) hx hb hr (fun t ht hW => ⟨⟨(-2), (), rfl, trivial, ct76, by rw [ht]; exact hP, hD, hI⟩, hS.F ht⟩) hS.2.2 dX8_odds_122
                      · skip
                        have c46 := (lg_cmp_eq _ _).mp c46
                        refine lv_ldc2 hx hb hown (hg _ mm_712) dX8_odds_75 ?_
                        exact W.lret (v := (-2)) hx hb hr (fun t ht hW => ⟨⟨(-2), (), rfl, trivial, ct45, by rw [ht]; exact hP, hD, hI⟩, hS.F ht⟩) hS.2.2 dX8_odds_78
                    · skip
                      exact absurd c26 (by decide)
                  · skip
                    obtain rfl := hr23
                    refine lv_if_ne (tgt := 52) hx hb dX8_odds_45 (by decide) (fun c82 => ?_) (fun c82 => ?_)
                    · skip
                      exact absurd c82 (by decide)
                    · skip
                      refine lv_ldc2 hx hb hown (hg _ mm_712) dX8_odds_48 ?_
                      exact W.lret (v := (-2)) hx hb hr (fun t ht hW => ⟨⟨(-2), (), rfl, trivial, ct, by rw [ht]; exact hP, hD, hI⟩, hS.F ht⟩) hS.2.2 dX8_odds_51
                · skip
                  exact absurd c22 (by decide)
              · skip
                obtain ⟨rfl, h83⟩ := hr19
                have h83 : ¬ ((0 : Int) ≤ wh.toInt ∧ wh.toInt ≤ (1 : Int)) := h83
                refine lv_if_ne (tgt := 39) hx hb dX8_odds_32 (by decide) (fun c84 => ?_) (fun c84 => ?_)
                · skip
                  exact absurd c84 (by decide)
                · skip
                  refine lv_ldc2 hx hb hown (hg _ mm_699) dX8_odds_35 ?_
                  exact W.lret (v := (-1)) hx hb hr (fun t ht hW => ⟨⟨(-1), (), rfl, trivial, ct, by rw [ht]; exact hP, hD, hI⟩, hS.F ht⟩) hS.2.2 dX8_odds_38
          · skip
            obtain ⟨rfl, h85⟩ := hr15
            have h85 : ¬ (0 ≤ kn.toInt ∧ kn.toInt ≤ 255) := h85
            refine lv_if_eq (tgt := 35) hx hb dX8_odds_22 (by decide) (fun c86 => ?_) (fun c86 => ?_)
            · skip
              refine lv_ldc2 hx hb hown (hg _ mm_699) dX8_odds_35 ?_
              exact W.lret (v := (-1)) hx hb hr (fun t ht hW => ⟨⟨(-1), (), rfl, trivial, ct, by rw [ht]; exact hP, hD, hI⟩, hS.F ht⟩) hS.2.2 dX8_odds_38
            · skip
              exact absurd c86 (by decide)
      · skip
        obtain ⟨rfl, h87⟩ := hr11
        have h87 : ¬ (0 ≤ p0.toInt ∧ p0.toInt < pe.toInt) := h87
        refine lv_if_eq (tgt := 35) hx hb dX8_odds_14 (by decide) (fun c88 => ?_) (fun c88 => ?_)
        · skip
          refine lv_ldc2 hx hb hown (hg _ mm_699) dX8_odds_35 ?_
          exact W.lret (v := (-1)) hx hb hr (fun t ht hW => ⟨⟨(-1), (), rfl, trivial, ct, by rw [ht]; exact hP, hD, hI⟩, hS.F ht⟩) hS.2.2 dX8_odds_38
        · skip
          exact absurd c88 (by decide)
  · skip
    obtain rfl := hr7
    refine lv_if_eq (tgt := 35) hx hb dX8_odds_6 (by decide) (fun c89 => ?_) (fun c89 => ?_)
    · skip
      refine lv_ldc2 hx hb hown (hg _ mm_699) dX8_odds_35 ?_
      exact W.lret (v := (-1)) hx hb hr (fun t ht hW => ⟨⟨(-1), (), rfl, trivial, ct, by rw [ht]; exact hP, hD, hI⟩, hS.F ht⟩) hS.2.2 dX8_odds_38
    · skip
      exact absurd c89 (by decide)

set_option maxHeartbeats 4000000 in
set_option maxRecDepth 100000 in
theorem k_X8_mustBe (l : Launch) (g : zG) (sz : Nat) (ad : Nat → Nat) (pe : Int32) (ct : Nat → va_E) (b : Int32) (i : Int32) (p0 : Int32) (kn : Int32) (hI : Inv8 g ad pe ct) : Met l yX8_mustBe (zW yX8_mustBe cX8_mustBe 6 (some .int)) ({ frames := 5, cells := 0, slots := 0, locals := 117 }) (va_Pc [.ref (ad 0), .int b, .int i, .int p0, .int kn] (zA g (zw 126 ad ct) sz)) (va_Qi (fun (r : Int32) (_ : Unit) => (True)) (fun _ t => ∃ ct2 : Nat → va_E, zP g (zw 126 ad ct2) t.heap ∧ va_D (va_A (zw 126 ad ct) sz) (zw 126 ad ct2) ∧ Inv8 g ad pe ct2) (va_A (zw 126 ad ct) sz)) 0 0 (va_A (zw 126 ad ct) sz) := by
  refine Met.ofW (cc := cX8_mustBe) (maxL := 6) (ret := (some .int)) (by decide) rfl ?_
  intro p e s m args below meth c s₁ B hml hv
  obtain ⟨rfl, hsz, hP, hK, hD0, hN⟩ := hv
  have hx := B.exec
  have hb := B.bytes
  have hr := B.returns
  have hg := zW.law (atoms_spec (ws := (zW yX8_mustBe cX8_mustBe 6 (some .int))) B.pre)
  have hown : s.vm.findClass RX8 = some m.cls := findClass_of_methodNamed B.named
  have hlocks := B.notSynchronized
  have hpe0 := hI.1
  subst hsz
  have hD := hD0.self (sz := s.heap.size)
  generalize hAe : va_A (zw 126 ad ct) s.heap.size = A at hD ⊢
  have hA : ∀ q : Nat, s.heap.size ≤ q → A q := fun q h => by rw [← hAe]; exact Or.inr h
  have hS : va_S A s.heap s.heap [] := va_S.rf
  have hl := lv_entry ([.ref (ad 0), .int b, .int i, .int p0, .int kn]) (n := 6) (Nat.le_of_ble_eq_true rfl)
  rw [lg_entry_eq]
  generalize (lg_sl ([.ref (ad 0), .int b, .int i, .int p0, .int kn]) ++ List.replicate (6 - (lg_sl ([.ref (ad 0), .int b, .int i, .int p0, .int kn])).length) Slot.unset).toArray = ls at hl ⊢
  have hl : lv_has ls 6 [(0, .ref (ad 0)), (1, .int b), (2, .int i), (3, .int p0), (4, .int kn)] := hl
  have rg_b := z_rng b
  have rg_i := z_rng i
  have rg_p0 := z_rng p0
  have rg_kn := z_rng kn
  refine lv_aload_n hx hb dX8_mustBe_0 rfl (lv_at hl 0 rfl) ?_
  refine lv_iload_n hx hb dX8_mustBe_1 rfl (lv_at hl 1 rfl) ?_
  refine lv_iload_n hx hb dX8_mustBe_2 rfl (lv_at hl 2 rfl) ?_
  obtain ⟨bk3, dr2, h4, h5, h6, hs1⟩ := a8_0 hI
  refine zc_i (va_runV (As := [.int b, .int i]) (rest := []) ⟨hx, hb, hml, hown, hg⟩ (k_X8_isLine l g ad pe ct b i hI) (cwV 2 hg (z_gV mm_587 mm_589 mm_19 mm_108 mm_590) rfl rfl rfl (by decide +kernel) ⟨Nat.le_of_ble_eq_true rfl, Nat.le_of_ble_eq_true rfl⟩) ⟨(zR.pre [.ref (ad 0), .int b, .int i] hP hK hN).1, va_recv hK hP (ci := 8) (q0 := 0) rfl (zw_at (by omega) hs1), (zR.pre [.ref (ad 0), .int b, .int i] hP hK hN).2⟩ rfl rfl hl.1 rfl (lv_room (Nat.le_of_ble_eq_true rfl)) dX8_mustBe_3 ⟨Nat.le_of_ble_eq_true rfl, Nat.le_of_ble_eq_true rfl⟩) (fun r7 hr7 => ?_)
  rcases hr7 with hr7 | hr7
  · skip
    obtain ⟨rfl, h8, h9⟩ := hr7
    have h8 : 0 ≤ b.toInt ∧ b.toInt ≤ 3 := h8
    have h9 : 0 ≤ i.toInt ∧ i.toInt ≤ 7 := h9
    refine lv_if_eq (tgt := 25) hx hb dX8_mustBe_6 (by decide) (fun c10 => ?_) (fun c10 => ?_)
    · skip
      exact absurd c10 (by decide)
    · skip
      refine lv_aload_n hx hb dX8_mustBe_9 rfl (lv_at hl 0 rfl) ?_
      refine lv_iload_n hx hb dX8_mustBe_10 rfl (lv_at hl 3 rfl) ?_
      refine zc_i (va_runV (As := [.int p0]) (rest := []) ⟨hx, hb, hml, hown, hg⟩ (k_X8_isPerson l g ad pe ct p0 hI) (cwV 1 hg (z_gV mm_451 mm_453 mm_3 mm_108 mm_454) rfl rfl rfl (by decide +kernel) ⟨Nat.le_of_ble_eq_true rfl, Nat.le_of_ble_eq_true rfl⟩) ⟨(zR.pre [.ref (ad 0), .int p0] hP hK hN).1, va_recv hK hP (ci := 8) (q0 := 0) rfl (zw_at (by omega) hs1), (zR.pre [.ref (ad 0), .int p0] hP hK hN).2⟩ rfl rfl hl.1 rfl (lv_room (Nat.le_of_ble_eq_true rfl)) dX8_mustBe_11 ⟨Nat.le_of_ble_eq_true rfl, Nat.le_of_ble_eq_true rfl⟩) (fun r11 hr11 => ?_)
      rcases hr11 with hr11 | hr11
      · skip
        obtain ⟨rfl, h12, h13⟩ := hr11
        have h12 : 0 ≤ p0.toInt := h12
        have h13 : p0.toInt < pe.toInt := h13
        refine lv_if_eq (tgt := 25) hx hb dX8_mustBe_14 (by decide) (fun c14 => ?_) (fun c14 => ?_)
        · skip
          exact absurd c14 (by decide)
        · skip
          refine lv_iload hx hb dX8_mustBe_17 (lv_at hl 4 rfl) ?_
          refine zc_i (va_runS (As := [.int kn]) (rest := []) ⟨hx, hb, hml, hown, hg⟩ (k_X8_areGossips l g ad pe ct kn hI) (va_cwS 1 hg (z_gS mm_652 mm_653 mm_108 mm_654) rfl rfl rfl (by decide +kernel) ⟨Nat.le_of_ble_eq_true rfl, Nat.le_of_ble_eq_true rfl⟩) (zR.pre [.int kn] hP hK hN) rfl rfl hl.1 rfl (lv_room (Nat.le_of_ble_eq_true rfl)) dX8_mustBe_19 ⟨Nat.le_of_ble_eq_true rfl, Nat.le_of_ble_eq_true rfl⟩) (fun r15 hr15 => ?_)
          rcases hr15 with hr15 | hr15
          · skip
            obtain ⟨rfl, h16, h17⟩ := hr15
            have h16 : 0 ≤ kn.toInt := h16
            have h17 : kn.toInt ≤ 255 := h17
            refine lv_if_ne (tgt := 27) hx hb dX8_mustBe_22 (by decide) (fun c18 => ?_) (fun c18 => ?_)
            · skip
              refine lv_aload_n hx hb dX8_mustBe_27 rfl (lv_at hl 0 rfl) ?_
              refine lv_iload_n hx hb dX8_mustBe_28 rfl (lv_at hl 1 rfl) ?_
              refine lv_iload_n hx hb dX8_mustBe_29 rfl (lv_at hl 2 rfl) ?_
              refine zc_i (va_runV (As := [.int b, .int i]) (rest := []) ⟨hx, hb, hml, hown, hg⟩ (k_X8_isLive l g ad pe ct b i hI) (cwV 2 hg (z_gV mm_583 mm_585 mm_18 mm_108 mm_586) rfl rfl rfl (by decide +kernel) ⟨Nat.le_of_ble_eq_true rfl, Nat.le_of_ble_eq_true rfl⟩) ⟨(zR.pre [.ref (ad 0), .int b, .int i] hP hK hN).1, va_recv hK hP (ci := 8) (q0 := 0) rfl (zw_at (by omega) hs1), (zR.pre [.ref (ad 0), .int b, .int i] hP hK hN).2⟩ rfl rfl hl.1 rfl (lv_room (Nat.le_of_ble_eq_true rfl)) dX8_mustBe_30 ⟨Nat.le_of_ble_eq_true rfl, Nat.le_of_ble_eq_true rfl⟩) (fun r19 hr19 => ?_)
              rcases hr19 with hr19 | hr19
              · skip
                obtain ⟨rfl, h20, h21⟩ := hr19
                have h20 : 0 ≤ b.toInt ∧ b.toInt ≤ 3 := h20
                have h21 : 0 ≤ i.toInt ∧ i.toInt ≤ 7 := h21
                refine lv_if_ne (tgt := 39) hx hb dX8_mustBe_33 (by decide) (fun c22 => ?_) (fun c22 => ?_)
                · skip
                  refine lv_aload_n hx hb dX8_mustBe_39 rfl (lv_at hl 0 rfl) ?_
                  refine lv_iload_n hx hb dX8_mustBe_40 rfl (lv_at hl 1 rfl) ?_
                  refine lv_iload hx hb dX8_mustBe_41 (lv_at hl 4 rfl) ?_
                  have hFc := zw_free hD hS hA
                  refine va_callv (va_runV (As := [.int b, .int kn]) (rest := []) ⟨hx, hb, hml, hown, hg⟩ (k_X8_fit l g _ ad pe ct b kn (by first | omega | decide) hI) (cwV 2 hg (z_gV mm_655 mm_657 mm_21 mm_108 mm_658) rfl rfl rfl (by decide +kernel) ⟨Nat.le_of_ble_eq_true rfl, Nat.le_of_ble_eq_true rfl⟩) ⟨(zA.pre [.ref (ad 0), .int b, .int kn] hP hK hD hN).1, va_recv hK hP (ci := 8) (q0 := 0) rfl (zw_at (by omega) hs1), (zA.pre [.ref (ad 0), .int b, .int kn] hP hK hD hN).2⟩ rfl rfl hl.1 rfl (lv_room (Nat.le_of_ble_eq_true rfl)) dX8_mustBe_43 ⟨Nat.le_of_ble_eq_true rfl, Nat.le_of_ble_eq_true rfl⟩) hS (fun q _ h => hFc q h) hFc (fun _ t H1 locs ht hvm hr23 hB hz1 hk1 hS => ?_)
                  obtain ⟨ct24, hP1, hD1, hI⟩ := hB
                  rw [ht] at hP1
                  have hD := hD1.weaken (fun _ _ _ h => hFc _ h)
                  generalize H1 = H at hP1 hS ⊢
                  have hP := hP1
                  refine W.widen (k := 0) (n := 0) (Nat.le_refl _) (Nat.le_refl _) ?_
                  refine lv_aload_n hx hb dX8_mustBe_46 rfl (lv_at hl 0 rfl) ?_
                  obtain ⟨bk27, dr26, h28, h29, h30, hs25⟩ := a8_0 hI
                  refine va_get (D := g.1) (ci := 8) (v := .ref (ad 10)) (C := RX8) (T := TX8) (N := 13) hx hb hg inG8 hown hK hP 0 (zw_at (by omega) hs25) rfl 6 (by decide) (hg _ mm_366) (fun _ h9 => h9) rfl dX8_mustBe_47 ?_
                  obtain ⟨lns32, liv33, lak34, fnd35, h36, h37, h38, h39, hs31⟩ := a8_10 hI
                  have hFc := zw_free hD hS hA
                  refine va_callv (va_runV (As := []) (rest := []) ⟨hx, hb, hml, hown, hg⟩ (k_X6_weigh l g _ ad pe ct24  hI) (cwV 0 hg (z_gV mm_720 mm_721 mm_722 mm_111 mm_723) rfl rfl rfl (by decide +kernel) ⟨Nat.le_of_ble_eq_true rfl, Nat.le_of_ble_eq_true rfl⟩) ⟨(zA.pre [.ref (ad 10)] hP hK hD hN).1, va_recv hK hP (ci := 6) (q0 := 10) rfl (zw_at (by omega) hs31), (zA.pre [.ref (ad 10)] hP hK hD hN).2⟩ rfl rfl hl.1 rfl (lv_room (Nat.le_of_ble_eq_true rfl)) dX8_mustBe_50 ⟨Nat.le_of_ble_eq_true rfl, Nat.le_of_ble_eq_true rfl⟩) hS (fun q _ h => hFc q h) hFc (fun _ t H1 locs ht hvm hr40 hB hz1 hk1 hS => ?_)
                  obtain ⟨ct41, hP1, hD1, hI⟩ := hB
                  rw [ht] at hP1
                  have hD := hD1.weaken (fun _ _ _ h => hFc _ h)
                  generalize H1 = H at hP1 hS ⊢
                  have hP := hP1
                  refine W.widen (k := 0) (n := 0) (Nat.le_refl _) (Nat.le_refl _) ?_
                  refine lv_aload_n hx hb dX8_mustBe_53 rfl (lv_at hl 0 rfl) ?_
                  obtain ⟨bk44, dr43, h45, h46, h47, hs42⟩ := a8_0 hI
                  refine va_get (D := g.1) (ci := 8) (v := .ref (ad 10)) (C := RX8) (T := TX8) (N := 13) hx hb hg inG8 hown hK hP 0 (zw_at (by omega) hs42) rfl 6 (by decide) (hg _ mm_366) (fun _ h9 => h9) rfl dX8_mustBe_54 ?_
                  obtain ⟨lns49, liv50, lak51, fnd52, h53, h54, h55, h56, hs48⟩ := a8_10 hI
                  refine va_get (D := g.1) (ci := 6) (v := .ref (ad 13)) (C := RX6) (T := TX6) (N := 10) hx hb hg inG6 hown hK hP 10 (zw_at (by omega) hs48) rfl 6 (by decide) (hg _ mm_185) (fun _ h9 => h9) rfl dX8_mustBe_57 ?_
                  refine lv_iload_n hx hb dX8_mustBe_60 rfl (lv_at hl 2 rfl) ?_
                  obtain ⟨f58, hp59, hs57⟩ := a8_13 hI
                  refine va_iald hx hb hK hP 13 0 (zw_at (by omega) hs57) rfl (z_in rfl (by omega) (by omega)) dX8_mustBe_61 ?_
                  refine lv_topi (fun y60 ey60 => ?_)
                  have hy60 := hp59 _ (z_clt (x := i) rfl (by omega) (by omega))
                  rw [← ey60] at hy60
                  have hy60 : 0 ≤ y60.toInt ∧ y60.toInt ≤ 65535 := hy60
                  refine lv_istore (lv' := [(5, .int y60), (0, .ref (ad 0)), (1, .int b), (2, .int i), (3, .int p0), (4, .int kn)]) hx hb dX8_mustBe_62 hl (by decide) rfl (fun ls hl => ?_)
                  refine lv_iload hx hb dX8_mustBe_64 (lv_at hl 0 rfl) ?_
                  refine lv_iload_n hx hb dX8_mustBe_66 rfl (lv_at hl 4 rfl) ?_
                  refine lv_ishr hx hb dX8_mustBe_67 ?_
                  refine lv_topi (fun x61 ex61 => ?_)
                  have tx61 := z_shr (x := y60) rfl (by omega) p0
                  rw [← ex61] at tx61
                  refine lv_iconst (v := 1) hx hb dX8_mustBe_68 (by decide) ?_
                  refine lv_iand hx hb dX8_mustBe_69 ?_
                  refine lv_topi (fun x62 ex62 => ?_)
                  have tx62 := z_andr (x := x61) (y := 1) (by decide : (1 : Int32).toInt = 1) (by omega)
                  rw [← ex62] at tx62
                  refine lv_if_ne (tgt := 75) hx hb dX8_mustBe_70 (by decide) (fun c63 => ?_) (fun c63 => ?_)
                  · skip
                    have c63 : ¬ (x62.toInt = 0) := fun q => c63 ((z_eq rfl (by decide : (0 : Int32).toInt = 0)).mpr q)
                    refine lv_iload hx hb dX8_mustBe_75 (lv_at hl 0 rfl) ?_
                    refine zc_i (va_runS (As := [.int y60]) (rest := []) ⟨hx, hb, hml, hown, hg⟩ (k_J6_bitCount_0f7a4 l g ad pe ct41 y60 hI) (va_cwS 1 hg (z_gS mm_734 mm_729 mm_119 mm_730) rfl rfl rfl (by decide +kernel) ⟨Nat.le_of_ble_eq_true rfl, Nat.le_of_ble_eq_true rfl⟩) (zR.pre [.int y60] hP hK hN) rfl rfl hl.1 rfl (lv_room (Nat.le_of_ble_eq_true rfl)) dX8_mustBe_77 ⟨Nat.le_of_ble_eq_true rfl, Nat.le_of_ble_eq_true rfl⟩) (fun r64 hr64 => ?_)
                    obtain ⟨hr64_0, hr64_1⟩ := hr64
                    have hr64_0 : 0 ≤ r64.toInt := hr64_0
                    have hr64_1 : r64.toInt ≤ 63 := hr64_1
                    refine lv_iconst (v := 1) hx hb dX8_mustBe_80 (by decide) ?_
                    refine lv_icmp_ne (tgt := 88) hx hb dX8_mustBe_81 (by decide) (fun c65 => ?_) (fun c65 => ?_)
                    · skip
                      have c65 : ¬ (r64.toInt = 1) := fun q => c65 ((z_eq rfl (by decide : (1 : Int32).toInt = 1)).mpr q)
                      refine lv_iconst (v := 1) hx hb dX8_mustBe_88 (by decide) ?_
                      have q66 : (1 : Int32).toInt = 1 := by decide
                      exact W.iret (v := 1) hx hb hr (fun t ht hW => ⟨⟨1, (), rfl, trivial, ct41, by rw [ht]; exact hP, hD, hI⟩, hS.F ht⟩) hS.2.2 dX8_mustBe_89
                    · skip
                      have c65 : r64.toInt = 1 := (z_eq rfl (by decide : (1 : Int32).toInt = 1)).mp c65
                      refine lv_iconst (v := 2) hx hb dX8_mustBe_84 (by decide) ?_
                      refine lv_goto (tgt := 89) hx hb dX8_mustBe_85 (by decide) ?_
                      have q67 : (2 : Int32).toInt = 2 := by decide
                      exact W.iret (v := 2) hx hb hr (fun t ht hW => ⟨⟨2, (), rfl, trivial, ct41, by rw [ht]; exact hP, hD, hI⟩, hS.F ht⟩) hS.2.2 dX8_mustBe_89
                  · skip
                    have c63 : x62.toInt = 0 := (z_eq rfl (by decide : (0 : Int32).toInt = 0)).mp c63
                    refine lv_iconst (v := 0) hx hb dX8_mustBe_73 (by decide) ?_
                    have q68 : (0 : Int32).toInt = 0 := by decide
                    exact W.iret (v := 0) hx hb hr (fun t ht hW => ⟨⟨0, (), rfl, trivial, ct41, by rw [ht]; exact hP, hD, hI⟩, hS.F ht⟩) hS.2.2 dX8_mustBe_74
                · skip
                  exact absurd c22 (by decide)
              · skip
                obtain rfl := hr19
                refine lv_if_ne (tgt := 39) hx hb dX8_mustBe_33 (by decide) (fun c69 => ?_) (fun c69 => ?_)
                · skip
                  exact absurd c69 (by decide)
                · skip
                  refine lv_bipush (v := (-2)) hx hb dX8_mustBe_36 (by decide) ?_
                  have q70 : ((-2) : Int32).toInt = -2 := by decide
                  exact W.iret (v := (-2)) hx hb hr (fun t ht hW => ⟨⟨(-2), (), rfl, trivial, ct, by rw [ht]; exact hP, hD, hI⟩, hS.F ht⟩) hS.2.2 dX8_mustBe_38
            · skip
              exact absurd c18 (by decide)
          · skip
            obtain ⟨rfl, h71⟩ := hr15
            have h71 : ¬ (0 ≤ kn.toInt ∧ kn.toInt ≤ 255) := h71
            refine lv_if_ne (tgt := 27) hx hb dX8_mustBe_22 (by decide) (fun c72 => ?_) (fun c72 => ?_)
            · skip
              exact absurd c72 (by decide)
            · skip
              refine lv_iconst (v := (-1)) hx hb dX8_mustBe_25 (by decide) ?_
              have q73 : ((-1) : Int32).toInt = -1 := by decide
              exact W.iret (v := (-1)) hx hb hr (fun t ht hW => ⟨⟨(-1), (), rfl, trivial, ct, by rw [ht]; exact hP, hD, hI⟩, hS.F ht⟩) hS.2.2 dX8_mustBe_26
      · skip
        obtain ⟨rfl, h74⟩ := hr11
        have h74 : ¬ (0 ≤ p0.toInt ∧ p0.toInt < pe.toInt) := h74
        refine lv_if_eq (tgt := 25) hx hb dX8_mustBe_14 (by decide) (fun c75 => ?_) (fun c75 => ?_)
        · skip
          refine lv_iconst (v := (-1)) hx hb dX8_mustBe_25 (by decide) ?_
          have q76 : ((-1) : Int32).toInt = -1 := by decide
          exact W.iret (v := (-1)) hx hb hr (fun t ht hW => ⟨⟨(-1), (), rfl, trivial, ct, by rw [ht]; exact hP, hD, hI⟩, hS.F ht⟩) hS.2.2 dX8_mustBe_26
        · skip
          exact absurd c75 (by decide)
  · skip
    obtain rfl := hr7
    refine lv_if_eq (tgt := 25) hx hb dX8_mustBe_6 (by decide) (fun c77 => ?_) (fun c77 => ?_)
    · skip
      refine lv_iconst (v := (-1)) hx hb dX8_mustBe_25 (by decide) ?_
      have q78 : ((-1) : Int32).toInt = -1 := by decide
      exact W.iret (v := (-1)) hx hb hr (fun t ht hW => ⟨⟨(-1), (), rfl, trivial, ct, by rw [ht]; exact hP, hD, hI⟩, hS.F ht⟩) hS.2.2 dX8_mustBe_26
    · skip
      exact absurd c77 (by decide)

set_option maxHeartbeats 4000000 in
set_option maxRecDepth 100000 in
theorem k_X8_giving (l : Launch) (g : zG) (sz : Nat) (ad : Nat → Nat) (pe : Int32) (ct : Nat → va_E) (b : Int32) (i : Int32) (kn : Int32) (hI : Inv8 g ad pe ct) : Met l yX8_giving (zW yX8_giving cX8_giving 5 (some .int)) ({ frames := 5, cells := 0, slots := 0, locals := 117 }) (va_Pc [.ref (ad 0), .int b, .int i, .int kn] (zA g (zw 126 ad ct) sz)) (va_Qi (fun (r : Int32) (_ : Unit) => (True)) (fun _ t => ∃ ct2 : Nat → va_E, zP g (zw 126 ad ct2) t.heap ∧ va_D (va_A (zw 126 ad ct) sz) (zw 126 ad ct2) ∧ Inv8 g ad pe ct2) (va_A (zw 126 ad ct) sz)) 0 0 (va_A (zw 126 ad ct) sz) := by
  refine Met.ofW (cc := cX8_giving) (maxL := 5) (ret := (some .int)) (by decide) rfl ?_
  intro p e s m args below meth c s₁ B hml hv
  obtain ⟨rfl, hsz, hP, hK, hD0, hN⟩ := hv
  have hx := B.exec
  have hb := B.bytes
  have hr := B.returns
  have hg := zW.law (atoms_spec (ws := (zW yX8_giving cX8_giving 5 (some .int))) B.pre)
  have hown : s.vm.findClass RX8 = some m.cls := findClass_of_methodNamed B.named
  have hlocks := B.notSynchronized
  have hpe0 := hI.1
  subst hsz
  have hD := hD0.self (sz := s.heap.size)
  generalize hAe : va_A (zw 126 ad ct) s.heap.size = A at hD ⊢
  have hA : ∀ q : Nat, s.heap.size ≤ q → A q := fun q h => by rw [← hAe]; exact Or.inr h
  have hS : va_S A s.heap s.heap [] := va_S.rf
  have hl := lv_entry ([.ref (ad 0), .int b, .int i, .int kn]) (n := 5) (Nat.le_of_ble_eq_true rfl)
  rw [lg_entry_eq]
  generalize (lg_sl ([.ref (ad 0), .int b, .int i, .int kn]) ++ List.replicate (5 - (lg_sl ([.ref (ad 0), .int b, .int i, .int kn])).length) Slot.unset).toArray = ls at hl ⊢
  have hl : lv_has ls 5 [(0, .ref (ad 0)), (1, .int b), (2, .int i), (3, .int kn)] := hl
  have rg_b := z_rng b
  have rg_i := z_rng i
  have rg_kn := z_rng kn
  refine lv_aload_n hx hb dX8_giving_0 rfl (lv_at hl 0 rfl) ?_
  refine lv_iload_n hx hb dX8_giving_1 rfl (lv_at hl 1 rfl) ?_
  refine lv_iload_n hx hb dX8_giving_2 rfl (lv_at hl 2 rfl) ?_
  obtain ⟨bk3, dr2, h4, h5, h6, hs1⟩ := a8_0 hI
  refine zc_i (va_runV (As := [.int b, .int i]) (rest := []) ⟨hx, hb, hml, hown, hg⟩ (k_X8_isLine l g ad pe ct b i hI) (cwV 2 hg (z_gV mm_587 mm_589 mm_19 mm_108 mm_590) rfl rfl rfl (by decide +kernel) ⟨Nat.le_of_ble_eq_true rfl, Nat.le_of_ble_eq_true rfl⟩) ⟨(zR.pre [.ref (ad 0), .int b, .int i] hP hK hN).1, va_recv hK hP (ci := 8) (q0 := 0) rfl (zw_at (by omega) hs1), (zR.pre [.ref (ad 0), .int b, .int i] hP hK hN).2⟩ rfl rfl hl.1 rfl (lv_room (Nat.le_of_ble_eq_true rfl)) dX8_giving_3 ⟨Nat.le_of_ble_eq_true rfl, Nat.le_of_ble_eq_true rfl⟩) (fun r7 hr7 => ?_)
  rcases hr7 with hr7 | hr7
  · skip
    obtain ⟨rfl, h8, h9⟩ := hr7
    have h8 : 0 ≤ b.toInt ∧ b.toInt ≤ 3 := h8
    have h9 : 0 ≤ i.toInt ∧ i.toInt ≤ 7 := h9
    refine lv_if_eq (tgt := 16) hx hb dX8_giving_6 (by decide) (fun c10 => ?_) (fun c10 => ?_)
    · skip
      exact absurd c10 (by decide)
    · skip
      refine lv_iload_n hx hb dX8_giving_9 rfl (lv_at hl 3 rfl) ?_
      refine zc_i (va_runS (As := [.int kn]) (rest := []) ⟨hx, hb, hml, hown, hg⟩ (k_X8_areGossips l g ad pe ct kn hI) (va_cwS 1 hg (z_gS mm_652 mm_653 mm_108 mm_654) rfl rfl rfl (by decide +kernel) ⟨Nat.le_of_ble_eq_true rfl, Nat.le_of_ble_eq_true rfl⟩) (zR.pre [.int kn] hP hK hN) rfl rfl hl.1 rfl (lv_room (Nat.le_of_ble_eq_true rfl)) dX8_giving_10 ⟨Nat.le_of_ble_eq_true rfl, Nat.le_of_ble_eq_true rfl⟩) (fun r11 hr11 => ?_)
      rcases hr11 with hr11 | hr11
      · skip
        obtain ⟨rfl, h12, h13⟩ := hr11
        have h12 : 0 ≤ kn.toInt := h12
        have h13 : kn.toInt ≤ 255 := h13
        refine lv_if_ne (tgt := 18) hx hb dX8_giving_13 (by decide) (fun c14 => ?_) (fun c14 => ?_)
        · skip
          refine lv_aload_n hx hb dX8_giving_18 rfl (lv_at hl 0 rfl) ?_
          refine lv_iload_n hx hb dX8_giving_19 rfl (lv_at hl 1 rfl) ?_
          refine lv_iload_n hx hb dX8_giving_20 rfl (lv_at hl 2 rfl) ?_
          refine zc_i (va_runV (As := [.int b, .int i]) (rest := []) ⟨hx, hb, hml, hown, hg⟩ (k_X8_isLive l g ad pe ct b i hI) (cwV 2 hg (z_gV mm_583 mm_585 mm_18 mm_108 mm_586) rfl rfl rfl (by decide +kernel) ⟨Nat.le_of_ble_eq_true rfl, Nat.le_of_ble_eq_true rfl⟩) ⟨(zR.pre [.ref (ad 0), .int b, .int i] hP hK hN).1, va_recv hK hP (ci := 8) (q0 := 0) rfl (zw_at (by omega) hs1), (zR.pre [.ref (ad 0), .int b, .int i] hP hK hN).2⟩ rfl rfl hl.1 rfl (lv_room (Nat.le_of_ble_eq_true rfl)) dX8_giving_21 ⟨Nat.le_of_ble_eq_true rfl, Nat.le_of_ble_eq_true rfl⟩) (fun r15 hr15 => ?_)
          rcases hr15 with hr15 | hr15
          · skip
            obtain ⟨rfl, h16, h17⟩ := hr15
            have h16 : 0 ≤ b.toInt ∧ b.toInt ≤ 3 := h16
            have h17 : 0 ≤ i.toInt ∧ i.toInt ≤ 7 := h17
            refine lv_if_ne (tgt := 30) hx hb dX8_giving_24 (by decide) (fun c18 => ?_) (fun c18 => ?_)
            · skip
              refine lv_aload_n hx hb dX8_giving_30 rfl (lv_at hl 0 rfl) ?_
              refine lv_iload_n hx hb dX8_giving_31 rfl (lv_at hl 1 rfl) ?_
              refine lv_iload_n hx hb dX8_giving_32 rfl (lv_at hl 3 rfl) ?_
              have hFc := zw_free hD hS hA
              refine va_callv (va_runV (As := [.int b, .int kn]) (rest := []) ⟨hx, hb, hml, hown, hg⟩ (k_X8_fit l g _ ad pe ct b kn (by first | omega | decide) hI) (cwV 2 hg (z_gV mm_655 mm_657 mm_21 mm_108 mm_658) rfl rfl rfl (by decide +kernel) ⟨Nat.le_of_ble_eq_true rfl, Nat.le_of_ble_eq_true rfl⟩) ⟨(zA.pre [.ref (ad 0), .int b, .int kn] hP hK hD hN).1, va_recv hK hP (ci := 8) (q0 := 0) rfl (zw_at (by omega) hs1), (zA.pre [.ref (ad 0), .int b, .int kn] hP hK hD hN).2⟩ rfl rfl hl.1 rfl (lv_room (Nat.le_of_ble_eq_true rfl)) dX8_giving_33 ⟨Nat.le_of_ble_eq_true rfl, Nat.le_of_ble_eq_true rfl⟩) hS (fun q _ h => hFc q h) hFc (fun _ t H1 locs ht hvm hr19 hB hz1 hk1 hS => ?_)
              obtain ⟨ct20, hP1, hD1, hI⟩ := hB
              rw [ht] at hP1
              have hD := hD1.weaken (fun _ _ _ h => hFc _ h)
              generalize H1 = H at hP1 hS ⊢
              have hP := hP1
              refine W.widen (k := 0) (n := 0) (Nat.le_refl _) (Nat.le_refl _) ?_
              refine lv_aload_n hx hb dX8_giving_36 rfl (lv_at hl 0 rfl) ?_
              obtain ⟨bk23, dr22, h24, h25, h26, hs21⟩ := a8_0 hI
              refine va_get (D := g.1) (ci := 8) (v := .ref (ad 10)) (C := RX8) (T := TX8) (N := 13) hx hb hg inG8 hown hK hP 0 (zw_at (by omega) hs21) rfl 6 (by decide) (hg _ mm_366) (fun _ h9 => h9) rfl dX8_giving_37 ?_
              refine lv_iload_n hx hb dX8_giving_40 rfl (lv_at hl 2 rfl) ?_
              obtain ⟨lns28, liv29, lak30, fnd31, h32, h33, h34, h35, hs27⟩ := a8_10 hI
              have hFc := zw_free hD hS hA
              refine va_calli (va_runV (As := [.int i]) (rest := []) ⟨hx, hb, hml, hown, hg⟩ (k_X6_least l g _ ad pe ct20 i hI) (cwV 1 hg (z_gV mm_739 mm_740 mm_741 mm_111 mm_742) rfl rfl rfl (by decide +kernel) ⟨Nat.le_of_ble_eq_true rfl, Nat.le_of_ble_eq_true rfl⟩) ⟨(zA.pre [.ref (ad 10), .int i] hP hK hD hN).1, va_recv hK hP (ci := 6) (q0 := 10) rfl (zw_at (by omega) hs27), (zA.pre [.ref (ad 10), .int i] hP hK hD hN).2⟩ rfl rfl hl.1 rfl (lv_room (Nat.le_of_ble_eq_true rfl)) dX8_giving_41 ⟨Nat.le_of_ble_eq_true rfl, Nat.le_of_ble_eq_true rfl⟩) hS (fun q _ h => hFc q h) hFc (fun r36 _ t H1 locs ht hvm hr36 hB hz1 hk1 hS => ?_)
              obtain ⟨ct37, hP1, hD1, hI⟩ := hB
              rw [ht] at hP1
              have hD := hD1.weaken (fun _ _ _ h => hFc _ h)
              generalize H1 = H at hP1 hS ⊢
              have hP := hP1
              refine W.widen (k := 0) (n := 0) (Nat.le_refl _) (Nat.le_refl _) ?_
              refine lv_istore (lv' := [(4, .int r36), (0, .ref (ad 0)), (1, .int b), (2, .int i), (3, .int kn)]) hx hb dX8_giving_44 hl (by decide) rfl (fun ls hl => ?_)
              refine lv_iload hx hb dX8_giving_46 (lv_at hl 0 rfl) ?_
              refine lv_iconst (v := (-1)) hx hb dX8_giving_48 (by decide) ?_
              refine lv_icmp_ne (tgt := 57) hx hb dX8_giving_49 (by decide) (fun c38 => ?_) (fun c38 => ?_)
              · skip
                have c38 : ¬ (r36.toInt = (-1)) := fun q => c38 ((z_eq rfl (by decide : ((-1) : Int32).toInt = (-1))).mpr q)
                refine lv_iload hx hb dX8_giving_57 (lv_at hl 0 rfl) ?_
                exact W.iret (v := r36) hx hb hr (fun t ht hW => ⟨⟨r36, (), rfl, trivial, ct37, by rw [ht]; exact hP, hD, hI⟩, hS.F ht⟩) hS.2.2 dX8_giving_59
              · skip
                have c38 : r36.toInt = (-1) := (z_eq rfl (by decide : ((-1) : Int32).toInt = (-1))).mp c38
                refine lv_bipush (v := (-2)) hx hb dX8_giving_52 (by decide) ?_
                refine lv_goto (tgt := 59) hx hb dX8_giving_54 (by decide) ?_
                have q39 : ((-2) : Int32).toInt = -2 := by decide
                exact W.iret (v := (-2)) hx hb hr (fun t ht hW => ⟨⟨(-2), (), rfl, trivial, ct37, by rw [ht]; exact hP, hD, hI⟩, hS.F ht⟩) hS.2.2 dX8_giving_59
            · skip
              exact absurd c18 (by decide)
          · skip
            obtain rfl := hr15
            refine lv_if_ne (tgt := 30) hx hb dX8_giving_24 (by decide) (fun c40 => ?_) (fun c40 => ?_)
            · skip
              exact absurd c40 (by decide)
            · skip
              refine lv_bipush (v := (-2)) hx hb dX8_giving_27 (by decide) ?_
              have q41 : ((-2) : Int32).toInt = -2 := by decide
              exact W.iret (v := (-2)) hx hb hr (fun t ht hW => ⟨⟨(-2), (), rfl, trivial, ct, by rw [ht]; exact hP, hD, hI⟩, hS.F ht⟩) hS.2.2 dX8_giving_29
        · skip
          exact absurd c14 (by decide)
      · skip
        obtain ⟨rfl, h42⟩ := hr11
        have h42 : ¬ (0 ≤ kn.toInt ∧ kn.toInt ≤ 255) := h42
        refine lv_if_ne (tgt := 18) hx hb dX8_giving_13 (by decide) (fun c43 => ?_) (fun c43 => ?_)
        · skip
          exact absurd c43 (by decide)
        · skip
          refine lv_iconst (v := (-1)) hx hb dX8_giving_16 (by decide) ?_
          have q44 : ((-1) : Int32).toInt = -1 := by decide
          exact W.iret (v := (-1)) hx hb hr (fun t ht hW => ⟨⟨(-1), (), rfl, trivial, ct, by rw [ht]; exact hP, hD, hI⟩, hS.F ht⟩) hS.2.2 dX8_giving_17
  · skip
    obtain rfl := hr7
    refine lv_if_eq (tgt := 16) hx hb dX8_giving_6 (by decide) (fun c45 => ?_) (fun c45 => ?_)
    · skip
      refine lv_iconst (v := (-1)) hx hb dX8_giving_16 (by decide) ?_
      have q46 : ((-1) : Int32).toInt = -1 := by decide
      exact W.iret (v := (-1)) hx hb hr (fun t ht hW => ⟨⟨(-1), (), rfl, trivial, ct, by rw [ht]; exact hP, hD, hI⟩, hS.F ht⟩) hS.2.2 dX8_giving_17
    · skip
      exact absurd c45 (by decide)
