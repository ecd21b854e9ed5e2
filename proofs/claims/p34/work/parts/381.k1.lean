set_option maxHeartbeats 4000000 in
set_option maxRecDepth 100000 in
theorem k_X8_gossip (l : Launch) (g : zG) (pe : Int32) (ct : Nat → va_E) (g0 : Int32) (b : Int32) (i : Int32) (n : Int32) (hI : Inv8 g idn pe ct) : DM l g pCl false yX8_gossip cX8_gossip 7 (some .int) ({ frames := 27, cells := 0, slots := 0, locals := 672 }) (fun (ct2 : Nat → va_E) (rr : Option Value) => ∃ (r : Int32), rr = some (.int r) ∧ ((True)) ∧ Inv8 g idn pe ct2) ct [.ref 0, .int g0, .int b, .int i, .int n] := by
  refine DM.K (fun K hK => ?_)
  refine GW.met (own := RX8) (loc := [(0, .ref 0), (1, .int g0), (2, .int b), (3, .int i), (4, .int n)]) (by decide) rfl rfl (Nat.le_of_ble_eq_true rfl) ?_
  have hpe0 := hI.1
  have rg_g0 := z_rng g0
  have rg_b := z_rng b
  have rg_i := z_rng i
  have rg_n := z_rng n
  refine dv_iload_n dX8_gossip_0 rfl 1 rfl ?_
  refine dv_iconst (v := 0) dX8_gossip_1 (by decide) ?_
  refine dv_bipush (v := 7) dX8_gossip_2 (by decide) ?_
  refine GW.callS (n := 3) (As := [.int g0, .int 0, .int 7]) (rest := []) (k_X8_within l g pe ct g0 (0 : Int32) (7 : Int32) hI) (fun _ h => Bool.noConfusion h) rfl rfl mm_355 mm_356 mm_52 mm_357 (by decide +kernel) ⟨Nat.le_of_ble_eq_true rfl, Nat.le_of_ble_eq_true rfl⟩ rfl (Nat.le_of_ble_eq_true rfl) dX8_gossip_4 (Nat.zero_le _) (Nat.zero_le _) rfl (fun ct1 rrr2 hBr2 hoff3 => ?_)
  obtain ⟨r2, rfl, hr2, rfl⟩ := hBr2
  refine GW.eq (S2 := [.int r2]) rfl rfl rfl ?_
  rcases hr2 with hr2 | hr2
  · skip
    obtain ⟨rfl, h4, h5⟩ := hr2
    have h4 : (0 : Int) ≤ g0.toInt := h4
    have h5 : g0.toInt ≤ (7 : Int) := h5
    refine dv_if_eq (tgt := 42) dX8_gossip_7 (by decide) (fun c6 => ?_) (fun c6 => ?_)
    · skip
      exact absurd c6 (by decide)
    · skip
      refine dv_aload_n dX8_gossip_10 rfl 0 rfl ?_
      refine dv_iload_n dX8_gossip_11 rfl 2 rfl ?_
      refine dv_iload_n dX8_gossip_12 rfl 3 rfl ?_
      obtain ⟨bk10, dr9, h11, h12, h13, hs8⟩ := a8_0 hI
      refine GW.callV (n := 2) (As := [.int b, .int i]) (rest := []) (b := 0) (k_X8_isLive l g pe ct b i hI) (fun _ h => h) rfl rfl ⟨by decide, rfl⟩ hs8 (q := (RX8, TX8, 13)) rfl mm_422 mm_424 mm_5 mm_52 mm_425 (by decide +kernel) ⟨Nat.le_of_ble_eq_true rfl, Nat.le_of_ble_eq_true rfl⟩ rfl (Nat.le_of_ble_eq_true rfl) dX8_gossip_13 (Nat.zero_le _) (Nat.zero_le _) rfl (fun ct7 rrr14 hBr14 hoff15 => ?_)
      obtain ⟨r14, rfl, hr14, rfl⟩ := hBr14
      refine GW.eq (S2 := [.int r14]) rfl rfl rfl ?_
      rcases hr14 with hr14 | hr14
      · skip
        obtain ⟨rfl, h16, h17⟩ := hr14
        have h16 : 0 ≤ b.toInt ∧ b.toInt ≤ 3 := h16
        have h17 : 0 ≤ i.toInt ∧ i.toInt ≤ 7 := h17
        refine dv_if_eq (tgt := 42) dX8_gossip_16 (by decide) (fun c18 => ?_) (fun c18 => ?_)
        · skip
          exact absurd c18 (by decide)
        · skip
          refine dv_iload dX8_gossip_19 4 rfl ?_
          refine dv_iconst (v := 1) dX8_gossip_21 (by decide) ?_
          refine dv_bipush (v := 100) dX8_gossip_22 (by decide) ?_
          refine GW.callS (n := 3) (As := [.int n, .int 1, .int 100]) (rest := []) (k_X8_within l g pe ct n (1 : Int32) (100 : Int32) hI) (fun _ h => Bool.noConfusion h) rfl rfl mm_355 mm_356 mm_52 mm_357 (by decide +kernel) ⟨Nat.le_of_ble_eq_true rfl, Nat.le_of_ble_eq_true rfl⟩ rfl (Nat.le_of_ble_eq_true rfl) dX8_gossip_24 (Nat.zero_le _) (Nat.zero_le _) rfl (fun ct19 rrr20 hBr20 hoff21 => ?_)
          obtain ⟨r20, rfl, hr20, rfl⟩ := hBr20
          refine GW.eq (S2 := [.int r20]) rfl rfl rfl ?_
          rcases hr20 with hr20 | hr20
          · skip
            obtain ⟨rfl, h22, h23⟩ := hr20
            have h22 : (1 : Int) ≤ n.toInt := h22
            have h23 : n.toInt ≤ (100 : Int) := h23
            refine dv_if_eq (tgt := 42) dX8_gossip_27 (by decide) (fun c24 => ?_) (fun c24 => ?_)
            · skip
              exact absurd c24 (by decide)
            · skip
              refine dv_aload_n dX8_gossip_30 rfl 0 rfl ?_
              refine dv_get (ci := 8) (v := .ref 3) (C := RX8) (T := TX8) (N := 13) ⟨by decide, rfl⟩ hs8 rfl inG8 2 (by decide) mm_305 rfl dX8_gossip_31 ?_
              obtain ⟨len26, h27, h28, hs25⟩ := a8_3 hI
              refine dv_get (ci := 7) (v := .int len26) (C := RX7) (T := TX7) (N := 2) ⟨by decide, rfl⟩ hs25 rfl inG7 0 (by decide) mm_80 rfl dX8_gossip_34 ?_
              refine dv_iload dX8_gossip_37 4 rfl ?_
              refine dv_icmp_ge (tgt := 44) dX8_gossip_39 (by decide) (fun c29 => ?_) (fun c29 => ?_)
              · skip
                have c29 : n.toInt ≤ len26.toInt := (z_le rfl rfl).mp c29
                refine dv_aload_n dX8_gossip_44 rfl 0 rfl ?_
                refine dv_get (ci := 8) (v := .ref (99 + 3 * dr9)) (C := RX8) (T := TX8) (N := 13) ⟨by decide, rfl⟩ hs8 rfl inG8 10 (by decide) mm_313 rfl dX8_gossip_45 ?_
                refine dv_aload_n dX8_gossip_48 rfl 0 rfl ?_
                refine dv_get (ci := 8) (v := .ref 3) (C := RX8) (T := TX8) (N := 13) ⟨by decide, rfl⟩ hs8 rfl inG8 2 (by decide) mm_305 rfl dX8_gossip_49 ?_
                refine dv_iload dX8_gossip_52 4 rfl ?_
                obtain ⟨tld32, ofb33, hol34, flt35, fla36, ofl37, len38, atx39, ref40, hz41, h42, h43, h44, h45, hz46, hs31⟩ := a8_44 (kc := (99 + 3 * dr9)) (by omega) hI
                have bhz41 := z_b01 hz41
                have bhz46 := z_b01 hz46
                refine GW.callV (n := 2) (As := [.ref 3, .int n]) (rest := []) (b := (99 + 3 * dr9)) (k_X4_write l g pe ct (99 + 3 * dr9) n (by omega) (by first | omega | decide) hI) sub_pGT_pCl rfl rfl ⟨by omega, pGT_of (by omega)⟩ hs31 (q := (RX4, TX4, 11)) rfl mm_675 mm_676 mm_677 mm_58 mm_678 (by decide +kernel) ⟨Nat.le_of_ble_eq_true rfl, Nat.le_of_ble_eq_true rfl⟩ rfl (Nat.le_of_ble_eq_true rfl) dX8_gossip_54 (Nat.zero_le _) (Nat.zero_le _) rfl (fun ct30 rrr47 hBr47 hoff48 => ?_)
                obtain ⟨rfl, hI⟩ := hBr47
                refine GW.eq (S2 := []) rfl rfl rfl ?_
                have hs49 : ct30 0 = .inr (8, [.ref 1, .ref 2, .ref 3, .ref 5, .ref 6, .ref 9, .ref 10, .ref 17, .ref 21, .ref 34, .ref (99 + 3 * dr9), .int pe, .int bk10]) := (hoff48 _ (pGT_no (by decide))).trans hs8
                refine dv_aload_n dX8_gossip_57 rfl 0 rfl ?_
                refine dv_get (ci := 8) (v := .ref 3) (C := RX8) (T := TX8) (N := 13) ⟨by decide, rfl⟩ hs49 rfl inG8 2 (by decide) mm_305 rfl dX8_gossip_58 ?_
                obtain ⟨len52, h53, h54, hs51⟩ := a8_3 hI
                refine GW.callV (n := 0) (As := []) (rest := []) (b := 3) (k_X7_clear l g pe ct30  hI) sub_pT_pCl rfl rfl ⟨by decide, rfl⟩ hs51 (q := (RX7, TX7, 2)) rfl mm_403 mm_404 mm_405 mm_53 mm_406 (by decide +kernel) ⟨Nat.le_of_ble_eq_true rfl, Nat.le_of_ble_eq_true rfl⟩ rfl (Nat.le_of_ble_eq_true rfl) dX8_gossip_61 (Nat.zero_le _) (Nat.zero_le _) rfl (fun ct50 rrr55 hBr55 hoff56 => ?_)
                obtain ⟨rfl, hI, hk57⟩ := hBr55
                refine GW.eq (S2 := []) rfl rfl rfl ?_
                have hs58 : ct50 0 = .inr (8, [.ref 1, .ref 2, .ref 3, .ref 5, .ref 6, .ref 9, .ref 10, .ref 17, .ref 21, .ref 34, .ref (99 + 3 * dr9), .int pe, .int bk10]) := (hoff56 _ (pT_no (by decide))).trans hs49
                refine dv_aload_n dX8_gossip_64 rfl 0 rfl ?_
                refine dv_get (ci := 8) (v := .ref (99 + 3 * dr9)) (C := RX8) (T := TX8) (N := 13) ⟨by decide, rfl⟩ hs58 rfl inG8 10 (by decide) mm_313 rfl dX8_gossip_65 ?_
                obtain ⟨tld61, ofb62, hol63, flt64, fla65, ofl66, len67, atx68, ref69, hz70, h71, h72, h73, h74, hz75, hs60⟩ := a8_44 (kc := (99 + 3 * dr9)) (by omega) hI
                have bhz70 := z_b01 hz70
                have bhz75 := z_b01 hz75
                refine GW.callV (n := 0) (As := []) (rest := []) (b := (99 + 3 * dr9)) (k_X4_read l g pe ct50 (99 + 3 * dr9) (by omega) hI) sub_pG_pCl rfl rfl ⟨by omega, pG_of (by omega)⟩ hs60 (q := (RX4, TX4, 11)) rfl mm_683 mm_684 mm_685 mm_58 mm_686 (by decide +kernel) ⟨Nat.le_of_ble_eq_true rfl, Nat.le_of_ble_eq_true rfl⟩ rfl (Nat.le_of_ble_eq_true rfl) dX8_gossip_68 (Nat.zero_le _) (Nat.zero_le _) rfl (fun ct59 rrr76 hBr76 hoff77 => ?_)
                obtain ⟨rfl, hI⟩ := hBr76
                refine GW.eq (S2 := []) rfl rfl rfl ?_
                have hs78 : ct59 0 = .inr (8, [.ref 1, .ref 2, .ref 3, .ref 5, .ref 6, .ref 9, .ref 10, .ref 17, .ref 21, .ref 34, .ref (99 + 3 * dr9), .int pe, .int bk10]) := (hoff77 _ (pG_no (by decide))).trans hs58
                refine dv_aload_n dX8_gossip_71 rfl 0 rfl ?_
                refine dv_get (ci := 8) (v := .ref (99 + 3 * dr9)) (C := RX8) (T := TX8) (N := 13) ⟨by decide, rfl⟩ hs78 rfl inG8 10 (by decide) mm_313 rfl dX8_gossip_72 ?_
                obtain ⟨tld80, ofb81, hol82, flt83, fla84, ofl85, len86, atx87, ref88, hz89, h90, h91, h92, h93, hz94, hs79⟩ := a8_44 (kc := (99 + 3 * dr9)) (by omega) hI
                have bhz89 := z_b01 hz89
                have bhz94 := z_b01 hz94
                refine dv_get (ci := 4) (v := .int flt83) (C := RX4) (T := TX4) (N := 11) ⟨by omega, pCl_of (by omega)⟩ hs79 rfl inG4 3 (by decide) mm_221 rfl dX8_gossip_75 ?_
                refine dv_if_eq (tgt := 101) dX8_gossip_78 (by decide) (fun c95 => ?_) (fun c95 => ?_)
                · skip
                  have c95 : flt83.toInt = 0 := (z_eq rfl (by decide : (0 : Int32).toInt = 0)).mp c95
                  refine dv_aload_n dX8_gossip_101 rfl 0 rfl ?_
                  refine dv_get (ci := 8) (v := .ref (99 + 3 * dr9)) (C := RX8) (T := TX8) (N := 13) ⟨by decide, rfl⟩ hs78 rfl inG8 10 (by decide) mm_313 rfl dX8_gossip_102 ?_
                  refine dv_astore (lv' := [(5, .ref (99 + 3 * dr9)), (0, .ref 0), (1, .int g0), (2, .int b), (3, .int i), (4, .int n)]) dX8_gossip_105 (by decide) rfl ?_
                  refine dv_aload_n dX8_gossip_107 rfl 1 rfl ?_
                  refine dv_aload_n dX8_gossip_108 rfl 1 rfl ?_
                  refine dv_get (ci := 8) (v := .ref 9) (C := RX8) (T := TX8) (N := 13) ⟨by decide, rfl⟩ hs78 rfl inG8 5 (by decide) mm_308 rfl dX8_gossip_109 ?_
                  refine dv_iload_n dX8_gossip_112 rfl 2 rfl ?_
                  obtain ⟨f97, hgf98, hs96⟩ := a8_9 hI
                  obtain ⟨j99, hj99, ej99⟩ := hgf98 _ (z_clt (x := g0) rfl (by omega) (by omega))
                  refine dv_aldq 6 ⟨by decide, rfl⟩ hs96 rfl (z_in rfl (by omega) (by omega)) dX8_gossip_113 (r := (99 + 3 * j99)) ej99 ?_
                  refine dv_put (ci := 8) (v := .ref (99 + 3 * j99)) (ty := .object "TwoFit$Gossip") (C := RX8) (T := TX8) (N := 13) ⟨by decide, rfl⟩ hs78 rfl inG8 tyX8 tyX8_ok nmX8 10 (by decide) mm_313 rfl (by decide +kernel) (fun _ => rfl) (fun _ => rfl) (Nat.le_of_ble_eq_true rfl) dX8_gossip_114 (en := .inr (8, [.ref 1, .ref 2, .ref 3, .ref 5, .ref 6, .ref 9, .ref 10, .ref 17, .ref 21, .ref 34, .ref (99 + 3 * j99), .int pe, .int bk10])) rfl (fun ct100 ec101 => ?_)
                  have hI : Inv8 g idn pe ct100 := by rw [ec101]; exact up8 hI (i8_0 ⟨(bk10 : Int32), j99, (by omega), (by first | omega | decide), (by first | omega | decide), rfl⟩)
                  have hs102 : ct100 (99 + 3 * dr9) = .inr (4, [.int tld80, .int ofb81, .int hol82, .int flt83, .int fla84, .int ofl85, .ref ((99 + 3 * dr9) + 1), .ref ((99 + 3 * dr9) + 2), .int len86, .int atx87, .int ref88]) := by rw [ec101, va_up_ne _ _ (by omega)]; exact hs79
                  have hs103 : ct100 9 = .inl (g.2 6, 8, .inr (.inr (.inr (.inr f97)))) := by rw [ec101, va_up_ne _ _ (by omega)]; exact hs96
                  have hs104 : ct100 0 = .inr (8, [.ref 1, .ref 2, .ref 3, .ref 5, .ref 6, .ref 9, .ref 10, .ref 17, .ref 21, .ref 34, .ref (99 + 3 * j99), .int pe, .int bk10]) := by rw [ec101]; exact va_up_self _ _ _
                  refine dv_aload_n dX8_gossip_117 rfl 1 rfl ?_
                  refine dv_get (ci := 8) (v := .ref 9) (C := RX8) (T := TX8) (N := 13) ⟨by decide, rfl⟩ hs104 rfl inG8 5 (by decide) mm_308 rfl dX8_gossip_118 ?_
                  refine dv_iload_n dX8_gossip_121 rfl 2 rfl ?_
                  refine dv_aload dX8_gossip_122 0 rfl ?_
                  refine dv_astq (ci := 4) 6 ⟨by decide, rfl⟩ hs103 rfl ⟨by omega, pCl_of (by omega)⟩ hs102 rfl (z_in rfl (by omega) (by omega)) dX8_gossip_124 (en := .inl (g.2 6, 8, .inr (.inr (.inr (.inr (va_up f97 (Int32.toNatClampNeg g0) (some (99 + 3 * dr9)))))))) rfl (fun ct106 ec107 => ?_)
                  have hgf105 : ∀ i, i < 8 → ∃ j, j < 9 ∧ (va_up f97 (Int32.toNatClampNeg g0) (some (99 + 3 * dr9))) i = some (idn (99 + 3 * j)) := fun i hi => by
                    unfold va_up
                    by_cases q : i = Int32.toNatClampNeg g0
                    · rw [if_pos q]; exact ⟨dr9, by omega, rfl⟩
                    · rw [if_neg q]; exact hgf98 i hi
                  have hI : Inv8 g idn pe ct106 := by rw [ec107]; exact up8 hI (i8_9 ⟨_, hgf105, rfl⟩)
                  have hs108 : ct106 (99 + 3 * dr9) = .inr (4, [.int tld80, .int ofb81, .int hol82, .int flt83, .int fla84, .int ofl85, .ref ((99 + 3 * dr9) + 1), .ref ((99 + 3 * dr9) + 2), .int len86, .int atx87, .int ref88]) := by rw [ec107, va_up_ne _ _ (by omega)]; exact hs102
                  have hs109 : ct106 0 = .inr (8, [.ref 1, .ref 2, .ref 3, .ref 5, .ref 6, .ref 9, .ref 10, .ref 17, .ref 21, .ref 34, .ref (99 + 3 * j99), .int pe, .int bk10]) := by rw [ec107, va_up_ne _ _ (by omega)]; exact hs104
                  have hs110 : ct106 9 = .inl (g.2 6, 8, .inr (.inr (.inr (.inr (va_up f97 (Int32.toNatClampNeg g0) (some (99 + 3 * dr9))))))) := by rw [ec107]; exact va_up_self _ _ _
                  refine dv_aload dX8_gossip_125 0 rfl ?_
                  refine dv_iload_n dX8_gossip_127 rfl 3 rfl ?_
                  refine dv_iload_n dX8_gossip_128 rfl 4 rfl ?_
                  refine GW.callV (n := 2) (As := [.int b, .int i]) (rest := []) (b := (99 + 3 * dr9)) (k_X4_tellOf l g pe ct106 (99 + 3 * dr9) b i (by omega) hI) sub_pG_pCl rfl rfl ⟨by omega, pG_of (by omega)⟩ hs108 (q := (RX4, TX4, 11)) rfl mm_687 mm_688 mm_689 mm_58 mm_690 (by decide +kernel) ⟨Nat.le_of_ble_eq_true rfl, Nat.le_of_ble_eq_true rfl⟩ rfl (Nat.le_of_ble_eq_true rfl) dX8_gossip_129 (Nat.zero_le _) (Nat.zero_le _) rfl (fun ct111 rrr112 hBr112 hoff113 => ?_)
                  obtain ⟨rfl, hI⟩ := hBr112
                  refine GW.eq (S2 := []) rfl rfl rfl ?_
                  have hs114 : ct111 0 = .inr (8, [.ref 1, .ref 2, .ref 3, .ref 5, .ref 6, .ref 9, .ref 10, .ref 17, .ref 21, .ref 34, .ref (99 + 3 * j99), .int pe, .int bk10]) := (hoff113 _ (pG_no (by decide))).trans hs109
                  have hs115 : ct111 9 = .inl (g.2 6, 8, .inr (.inr (.inr (.inr (va_up f97 (Int32.toNatClampNeg g0) (some (99 + 3 * dr9))))))) := (hoff113 _ (pG_no (by decide))).trans hs110
                  refine dv_iconst (v := 0) dX8_gossip_132 (by decide) ?_
                  refine dv_istore (lv' := [(6, .int 0), (5, .ref (99 + 3 * dr9)), (0, .ref 0), (1, .int g0), (2, .int b), (3, .int i), (4, .int n)]) dX8_gossip_133 (by decide) rfl ?_
                  have loop135 : ∀ (n135 : Nat) (v6_135 : Int32) (ct116 : Nat → va_E), ((16 - v6_135.toInt : Int).toNat < n135) → (0 ≤ v6_135.toInt ∧ v6_135.toInt ≤ 16) → (Inv8 g idn pe ct116) → GW l g pCl pCl false yX8_gossip cX8_gossip 7 (some .int) RX8 ({ frames := 27, cells := 0, slots := 0, locals := 672 }) K 0 0 ct116 135 [(6, .int v6_135), (5, .ref (99 + 3 * dr9)), (0, .ref 0), (1, .int g0), (2, .int b), (3, .int i), (4, .int n)] [] := by
                    intro n135
                    induction n135 with
                    | zero =>
                      intro v6_135 ct116 hn135 b6_135 hI
                      exact absurd hn135 (Nat.not_lt_zero _)
                    | succ n135 ih135 =>
                      intro v6_135 ct116 hn135 b6_135 hI
                      refine dv_iload dX8_gossip_135 0 rfl ?_
                      refine dv_aload_n dX8_gossip_137 rfl 2 rfl ?_
                      obtain ⟨bk119, dr118, h120, h121, h122, hs117⟩ := a8_0 hI
                      refine dv_get (ci := 8) (v := .int pe) (C := RX8) (T := TX8) (N := 13) ⟨by decide, rfl⟩ hs117 rfl inG8 11 (by decide) mm_314 rfl dX8_gossip_138 ?_
                      refine dv_icmp_ge (tgt := 165) dX8_gossip_141 (by decide) (fun c123 => ?_) (fun c123 => ?_)
                      · skip
                        have c123 : pe.toInt ≤ v6_135.toInt := (z_le rfl rfl).mp c123
                        refine dv_iconst (v := 1) dX8_gossip_165 (by decide) ?_
                        have q124 : (1 : Int32).toInt = 1 := by decide
                        exact dv_iret dX8_gossip_166 rfl (by first | exact Nat.zero_le _ | decide) (by first | exact Nat.zero_le _ | decide) (by subst hK; exact ⟨1, rfl, (trivial), hI⟩)
                      · skip
                        have c123 : ¬ (pe.toInt ≤ v6_135.toInt) := fun q => c123 ((z_le rfl rfl).mpr q)
                        refine dv_aload_n dX8_gossip_144 rfl 2 rfl ?_
                        refine dv_iload dX8_gossip_145 0 rfl ?_
                        refine GW.callV (n := 1) (As := [.int v6_135]) (rest := []) (b := 0) (k_X8_spell l g pe ct116 v6_135 hI) (fun _ h => h) rfl rfl ⟨by decide, rfl⟩ hs117 (q := (RX8, TX8, 13)) rfl mm_576 mm_578 mm_19 mm_52 mm_579 (by decide +kernel) ⟨Nat.le_of_ble_eq_true rfl, Nat.le_of_ble_eq_true rfl⟩ rfl (Nat.le_of_ble_eq_true rfl) dX8_gossip_147 (Nat.zero_le _) (Nat.zero_le _) rfl (fun ct125 rrr126 hBr126 hoff127 => ?_)
                        obtain ⟨rfl, hI⟩ := hBr126
                        refine GW.eq (S2 := []) rfl rfl rfl ?_
                        refine dv_aload dX8_gossip_150 1 rfl ?_
                        refine dv_aload_n dX8_gossip_152 rfl 2 rfl ?_
                        obtain ⟨bk130, dr129, h131, h132, h133, hs128⟩ := a8_0 hI
                        refine dv_get (ci := 8) (v := .ref 34) (C := RX8) (T := TX8) (N := 13) ⟨by decide, rfl⟩ hs128 rfl inG8 9 (by decide) mm_312 rfl dX8_gossip_153 ?_
                        obtain ⟨tld136, ofb137, hol138, flt139, fla140, ofl141, len142, atx143, ref144, hz145, h146, h147, h148, h149, hz150, hs135⟩ := a8_44 (kc := (99 + 3 * dr9)) (by omega) hI
                        have bhz145 := z_b01 hz145
                        have bhz150 := z_b01 hz150
                        refine GW.callV (n := 1) (As := [.ref 34]) (rest := []) (b := (99 + 3 * dr9)) (k_X4_judge l g pe ct125 (99 + 3 * dr9) (by omega) hI) sub_pG_pCl rfl rfl ⟨by omega, pG_of (by omega)⟩ hs135 (q := (RX4, TX4, 11)) rfl mm_580 mm_581 mm_582 mm_58 mm_583 (by decide +kernel) ⟨Nat.le_of_ble_eq_true rfl, Nat.le_of_ble_eq_true rfl⟩ rfl (Nat.le_of_ble_eq_true rfl) dX8_gossip_156 (Nat.zero_le _) (Nat.zero_le _) rfl (fun ct134 rrr151 hBr151 hoff152 => ?_)
                        obtain ⟨rfl, hI⟩ := hBr151
                        refine GW.eq (S2 := []) rfl rfl rfl ?_
                        have hs153 : ct134 0 = .inr (8, [.ref 1, .ref 2, .ref 3, .ref 5, .ref 6, .ref 9, .ref 10, .ref 17, .ref 21, .ref 34, .ref (99 + 3 * dr129), .int pe, .int bk130]) := (hoff152 _ (pG_no (by decide))).trans hs128
                        obtain ⟨x154, ex154⟩ : ∃ y : Int32, y = v6_135 + 1 := ⟨_, rfl⟩
                        have tx154 : x154.toInt = v6_135.toInt + 1 := by rw [ex154]; exact z_add rfl (by decide : (1 : Int32).toInt = 1) (by omega) (by omega)
                        refine dv_iinc (v := x154) (lv' := [(6, .int x154), (5, .ref (99 + 3 * dr9)), (0, .ref 0), (1, .int g0), (2, .int b), (3, .int i), (4, .int n)]) dX8_gossip_159 (k := 0) rfl (by rw [ex154]; rfl) (by decide) rfl ?_
                        refine dv_goto (tgt := 135) dX8_gossip_162 (by decide) ?_
                        exact ih135 x154 ct134 (by omega) (by first | omega | decide | assumption) hI
                  exact loop135 ((16 - (0 : Int32).toInt : Int).toNat + 1) (0 : Int32) ct111 (by omega) (by first | omega | decide | assumption) hI
                · skip
                  have c95 : ¬ (flt83.toInt = 0) := fun q => c95 ((z_eq rfl (by decide : (0 : Int32).toInt = 0)).mpr q)
                  refine dv_sipush (v := (-1000)) dX8_gossip_81 (by decide) ?_
                  refine dv_aload_n dX8_gossip_84 rfl 0 rfl ?_
                  refine dv_get (ci := 8) (v := .ref (99 + 3 * dr9)) (C := RX8) (T := TX8) (N := 13) ⟨by decide, rfl⟩ hs78 rfl inG8 10 (by decide) mm_313 rfl dX8_gossip_85 ?_
                  refine dv_get (ci := 4) (v := .int flt83) (C := RX4) (T := TX4) (N := 11) ⟨by omega, pCl_of (by omega)⟩ hs79 rfl inG4 3 (by decide) mm_221 rfl dX8_gossip_88 ?_
                  refine dv_imul dX8_gossip_91 ?_
                  refine dv_topi (fun x155 ex155 => ?_)
                  refine dv_aload_n dX8_gossip_92 rfl 0 rfl ?_
                  refine dv_get (ci := 8) (v := .ref (99 + 3 * dr9)) (C := RX8) (T := TX8) (N := 13) ⟨by decide, rfl⟩ hs78 rfl inG8 10 (by decide) mm_313 rfl dX8_gossip_93 ?_
                  refine dv_get (ci := 4) (v := .int fla84) (C := RX4) (T := TX4) (N := 11) ⟨by omega, pCl_of (by omega)⟩ hs79 rfl inG4 4 (by decide) mm_223 rfl dX8_gossip_96 ?_
                  refine dv_isub dX8_gossip_99 ?_
                  refine dv_topi (fun x156 ex156 => ?_)
                  exact dv_iret dX8_gossip_100 rfl (by first | exact Nat.zero_le _ | decide) (by first | exact Nat.zero_le _ | decide) (by subst hK; exact ⟨x156, rfl, (trivial), hI⟩)
              · skip
                have c29 : ¬ (n.toInt ≤ len26.toInt) := fun q => c29 ((z_le rfl rfl).mpr q)
                refine dv_iconst (v := (-1)) dX8_gossip_42 (by decide) ?_
                have q157 : ((-1) : Int32).toInt = -1 := by decide
                exact dv_iret dX8_gossip_43 rfl (by first | exact Nat.zero_le _ | decide) (by first | exact Nat.zero_le _ | decide) (by subst hK; exact ⟨(-1), rfl, (trivial), hI⟩)
          · skip
            obtain ⟨rfl, h158⟩ := hr20
            have h158 : ¬ ((1 : Int) ≤ n.toInt ∧ n.toInt ≤ (100 : Int)) := h158
            refine dv_if_eq (tgt := 42) dX8_gossip_27 (by decide) (fun c159 => ?_) (fun c159 => ?_)
            · skip
              refine dv_iconst (v := (-1)) dX8_gossip_42 (by decide) ?_
              have q160 : ((-1) : Int32).toInt = -1 := by decide
              exact dv_iret dX8_gossip_43 rfl (by first | exact Nat.zero_le _ | decide) (by first | exact Nat.zero_le _ | decide) (by subst hK; exact ⟨(-1), rfl, (trivial), hI⟩)
            · skip
              exact absurd c159 (by decide)
      · skip
        obtain rfl := hr14
        refine dv_if_eq (tgt := 42) dX8_gossip_16 (by decide) (fun c161 => ?_) (fun c161 => ?_)
        · skip
          refine dv_iconst (v := (-1)) dX8_gossip_42 (by decide) ?_
          have q162 : ((-1) : Int32).toInt = -1 := by decide
          exact dv_iret dX8_gossip_43 rfl (by first | exact Nat.zero_le _ | decide) (by first | exact Nat.zero_le _ | decide) (by subst hK; exact ⟨(-1), rfl, (trivial), hI⟩)
        · skip
          exact absurd c161 (by decide)
  · skip
    obtain ⟨rfl, h163⟩ := hr2
    have h163 : ¬ ((0 : Int) ≤ g0.toInt ∧ g0.toInt ≤ (7 : Int)) := h163
    refine dv_if_eq (tgt := 42) dX8_gossip_7 (by decide) (fun c164 => ?_) (fun c164 => ?_)
    · skip
      refine dv_iconst (v := (-1)) dX8_gossip_42 (by decide) ?_
      have q165 : ((-1) : Int32).toInt = -1 := by decide
      exact dv_iret dX8_gossip_43 rfl (by first | exact Nat.zero_le _ | decide) (by first | exact Nat.zero_le _ | decide) (by subst hK; exact ⟨(-1), rfl, (trivial), hI⟩)
    · skip
      exact absurd c164 (by decide)

set_option maxHeartbeats 4000000 in
set_option maxRecDepth 100000 in
theorem k_X8_line (l : Launch) (g : zG) (pe : Int32) (ct : Nat → va_E) (b : Int32) (i : Int32) (c0 : Int32) (hI : Inv8 g idn pe ct) : DM l g pCl false yX8_line cX8_line 4 (some .int) ({ frames := 3, cells := 0, slots := 0, locals := 66 }) (fun (ct2 : Nat → va_E) (rr : Option Value) => ∃ (r : Int32), rr = some (.int r) ∧ ((True)) ∧ ct = ct2) ct [.ref 0, .int b, .int i, .int c0] := by
  refine DM.K (fun K hK => ?_)
  refine GW.met (own := RX8) (loc := [(0, .ref 0), (1, .int b), (2, .int i), (3, .int c0)]) (by decide) rfl rfl (Nat.le_of_ble_eq_true rfl) ?_
  have hpe0 := hI.1
  have rg_b := z_rng b
  have rg_i := z_rng i
  have rg_c0 := z_rng c0
  refine dv_aload_n dX8_line_0 rfl 0 rfl ?_
  refine dv_iload_n dX8_line_1 rfl 1 rfl ?_
  refine dv_iload_n dX8_line_2 rfl 2 rfl ?_
  obtain ⟨bk4, dr3, h5, h6, h7, hs2⟩ := a8_0 hI
  refine GW.callV (n := 2) (As := [.int b, .int i]) (rest := []) (b := 0) (k_X8_isLine l g pe ct b i hI) (fun _ h => h) rfl rfl ⟨by decide, rfl⟩ hs2 (q := (RX8, TX8, 13)) rfl mm_411 mm_413 mm_3 mm_52 mm_414 (by decide +kernel) ⟨Nat.le_of_ble_eq_true rfl, Nat.le_of_ble_eq_true rfl⟩ rfl (Nat.le_of_ble_eq_true rfl) dX8_line_3 (Nat.zero_le _) (Nat.zero_le _) rfl (fun ct1 rrr8 hBr8 hoff9 => ?_)
  obtain ⟨r8, rfl, hr8, rfl⟩ := hBr8
  refine GW.eq (S2 := [.int r8]) rfl rfl rfl ?_
  rcases hr8 with hr8 | hr8
  · skip
    obtain ⟨rfl, h10, h11⟩ := hr8
    have h10 : 0 ≤ b.toInt ∧ b.toInt ≤ 3 := h10
    have h11 : 0 ≤ i.toInt ∧ i.toInt ≤ 7 := h11
    refine dv_if_eq (tgt := 18) dX8_line_6 (by decide) (fun c12 => ?_) (fun c12 => ?_)
    · skip
      exact absurd c12 (by decide)
    · skip
      refine dv_iload_n dX8_line_9 rfl 3 rfl ?_
      refine dv_iconst (v := 0) dX8_line_10 (by decide) ?_
      refine dv_iconst (v := 4) dX8_line_11 (by decide) ?_
      refine GW.callS (n := 3) (As := [.int c0, .int 0, .int 4]) (rest := []) (k_X8_within l g pe ct c0 (0 : Int32) (4 : Int32) hI) (fun _ h => Bool.noConfusion h) rfl rfl mm_355 mm_356 mm_52 mm_357 (by decide +kernel) ⟨Nat.le_of_ble_eq_true rfl, Nat.le_of_ble_eq_true rfl⟩ rfl (Nat.le_of_ble_eq_true rfl) dX8_line_12 (Nat.zero_le _) (Nat.zero_le _) rfl (fun ct13 rrr14 hBr14 hoff15 => ?_)
      obtain ⟨r14, rfl, hr14, rfl⟩ := hBr14
      refine GW.eq (S2 := [.int r14]) rfl rfl rfl ?_
      rcases hr14 with hr14 | hr14
      · skip
        obtain ⟨rfl, h16, h17⟩ := hr14
        have h16 : (0 : Int) ≤ c0.toInt := h16
        have h17 : c0.toInt ≤ (4 : Int) := h17
        refine dv_if_ne (tgt := 20) dX8_line_15 (by decide) (fun c18 => ?_) (fun c18 => ?_)
        · skip
          refine dv_iload_n dX8_line_20 rfl 3 rfl ?_
          refine dv_iconst (v := 4) dX8_line_21 (by decide) ?_
          refine dv_icmp_ne (tgt := 36) dX8_line_22 (by decide) (fun c19 => ?_) (fun c19 => ?_)
          · skip
            have c19 : ¬ (c0.toInt = 4) := fun q => c19 ((z_eq rfl (by decide : (4 : Int32).toInt = 4)).mpr q)
            refine dv_aload_n dX8_line_36 rfl 0 rfl ?_
            refine dv_iload_n dX8_line_37 rfl 1 rfl ?_
            refine dv_iload_n dX8_line_38 rfl 2 rfl ?_
            refine GW.callV (n := 2) (As := [.int b, .int i]) (rest := []) (b := 0) (k_X8_isLive l g pe ct b i hI) (fun _ h => h) rfl rfl ⟨by decide, rfl⟩ hs2 (q := (RX8, TX8, 13)) rfl mm_422 mm_424 mm_5 mm_52 mm_425 (by decide +kernel) ⟨Nat.le_of_ble_eq_true rfl, Nat.le_of_ble_eq_true rfl⟩ rfl (Nat.le_of_ble_eq_true rfl) dX8_line_39 (Nat.zero_le _) (Nat.zero_le _) rfl (fun ct20 rrr21 hBr21 hoff22 => ?_)
            obtain ⟨r21, rfl, hr21, rfl⟩ := hBr21
            refine GW.eq (S2 := [.int r21]) rfl rfl rfl ?_
            rcases hr21 with hr21 | hr21
            · skip
              obtain ⟨rfl, h23, h24⟩ := hr21
              have h23 : 0 ≤ b.toInt ∧ b.toInt ≤ 3 := h23
              have h24 : 0 ≤ i.toInt ∧ i.toInt ≤ 7 := h24
              refine dv_if_eq (tgt := 59) dX8_line_42 (by decide) (fun c25 => ?_) (fun c25 => ?_)
              · skip
                exact absurd c25 (by decide)
              · skip
                refine dv_aload_n dX8_line_45 rfl 0 rfl ?_
                refine dv_get (ci := 8) (v := .ref 5) (C := RX8) (T := TX8) (N := 13) ⟨by decide, rfl⟩ hs2 rfl inG8 3 (by decide) mm_306 rfl dX8_line_46 ?_
                refine dv_iload_n dX8_line_49 rfl 1 rfl ?_
                have hs26 := a8_5 hI
                refine dv_aldq 5 ⟨by decide, rfl⟩ hs26 rfl (z_in rfl (by omega) (by omega)) dX8_line_50 (r := (0 + 55 + 11 * b.toInt.toNat)) (zF5_r (x := b) (by omega) (by omega)) ?_
                refine dv_iload_n dX8_line_51 rfl 2 rfl ?_
                refine dv_iload_n dX8_line_52 rfl 3 rfl ?_
                obtain ⟨lns29, liv30, shw31, h32, h33, h34, h35, hz36, h37, hs28⟩ := a8_40 (kc := (0 + 55 + 11 * b.toInt.toNat)) (by omega) hI
                have bhz36 := z_b01 hz36
                refine GW.callV (n := 2) (As := [.int i, .int c0]) (rest := []) (b := (0 + 55 + 11 * b.toInt.toNat)) (k_X2_nodeAt l g pe ct (0 + 55 + 11 * b.toInt.toNat) i c0 (by omega) hI) sub_pB_pCl rfl rfl ⟨by omega, pB_of (by omega)⟩ hs28 (q := (RX2, TX2, 5)) rfl mm_461 mm_462 mm_463 mm_60 mm_464 (by decide +kernel) ⟨Nat.le_of_ble_eq_true rfl, Nat.le_of_ble_eq_true rfl⟩ rfl (Nat.le_of_ble_eq_true rfl) dX8_line_53 (Nat.zero_le _) (Nat.zero_le _) rfl (fun ct27 rrr38 hBr38 hoff39 => ?_)
                obtain ⟨r38, rfl, hr38, rfl⟩ := hBr38
                refine GW.eq (S2 := [.int r38]) rfl rfl rfl ?_
                refine dv_goto (tgt := 61) dX8_line_56 (by decide) ?_
                exact dv_iret dX8_line_61 rfl (by first | exact Nat.zero_le _ | decide) (by first | exact Nat.zero_le _ | decide) (by subst hK; exact ⟨r38, rfl, (trivial), rfl⟩)
            · skip
              obtain rfl := hr21
              refine dv_if_eq (tgt := 59) dX8_line_42 (by decide) (fun c40 => ?_) (fun c40 => ?_)
              · skip
                refine dv_bipush (v := (-2)) dX8_line_59 (by decide) ?_
                have q41 : ((-2) : Int32).toInt = -2 := by decide
                exact dv_iret dX8_line_61 rfl (by first | exact Nat.zero_le _ | decide) (by first | exact Nat.zero_le _ | decide) (by subst hK; exact ⟨(-2), rfl, (trivial), rfl⟩)
              · skip
                exact absurd c40 (by decide)
          · skip
            have c19 : c0.toInt = 4 := (z_eq rfl (by decide : (4 : Int32).toInt = 4)).mp c19
            refine dv_aload_n dX8_line_25 rfl 0 rfl ?_
            refine dv_get (ci := 8) (v := .ref 5) (C := RX8) (T := TX8) (N := 13) ⟨by decide, rfl⟩ hs2 rfl inG8 3 (by decide) mm_306 rfl dX8_line_26 ?_
            refine dv_iload_n dX8_line_29 rfl 1 rfl ?_
            have hs42 := a8_5 hI
            refine dv_aldq 5 ⟨by decide, rfl⟩ hs42 rfl (z_in rfl (by omega) (by omega)) dX8_line_30 (r := (0 + 55 + 11 * b.toInt.toNat)) (zF5_r (x := b) (by omega) (by omega)) ?_
            refine dv_iload_n dX8_line_31 rfl 2 rfl ?_
            obtain ⟨lns45, liv46, shw47, h48, h49, h50, h51, hz52, h53, hs44⟩ := a8_40 (kc := (0 + 55 + 11 * b.toInt.toNat)) (by omega) hI
            have bhz52 := z_b01 hz52
            refine GW.callV (n := 1) (As := [.int i]) (rest := []) (b := (0 + 55 + 11 * b.toInt.toNat)) (k_X2_owner l g pe ct (0 + 55 + 11 * b.toInt.toNat) i (by omega) hI) sub_pB_pCl rfl rfl ⟨by omega, pB_of (by omega)⟩ hs44 (q := (RX2, TX2, 5)) rfl mm_382 mm_383 mm_384 mm_60 mm_385 (by decide +kernel) ⟨Nat.le_of_ble_eq_true rfl, Nat.le_of_ble_eq_true rfl⟩ rfl (Nat.le_of_ble_eq_true rfl) dX8_line_32 (Nat.zero_le _) (Nat.zero_le _) rfl (fun ct43 rrr54 hBr54 hoff55 => ?_)
            obtain ⟨r54, rfl, hr54, rfl⟩ := hBr54
            refine GW.eq (S2 := [.int r54]) rfl rfl rfl ?_
            exact dv_iret dX8_line_35 rfl (by first | exact Nat.zero_le _ | decide) (by first | exact Nat.zero_le _ | decide) (by subst hK; exact ⟨r54, rfl, (trivial), rfl⟩)
        · skip
          exact absurd c18 (by decide)
      · skip
        obtain ⟨rfl, h56⟩ := hr14
        have h56 : ¬ ((0 : Int) ≤ c0.toInt ∧ c0.toInt ≤ (4 : Int)) := h56
        refine dv_if_ne (tgt := 20) dX8_line_15 (by decide) (fun c57 => ?_) (fun c57 => ?_)
        · skip
          exact absurd c57 (by decide)
        · skip
          refine dv_iconst (v := (-1)) dX8_line_18 (by decide) ?_
          have q58 : ((-1) : Int32).toInt = -1 := by decide
          exact dv_iret dX8_line_19 rfl (by first | exact Nat.zero_le _ | decide) (by first | exact Nat.zero_le _ | decide) (by subst hK; exact ⟨(-1), rfl, (trivial), rfl⟩)
  · skip
    obtain rfl := hr8
    refine dv_if_eq (tgt := 18) dX8_line_6 (by decide) (fun c59 => ?_) (fun c59 => ?_)
    · skip
      refine dv_iconst (v := (-1)) dX8_line_18 (by decide) ?_
      have q60 : ((-1) : Int32).toInt = -1 := by decide
      exact dv_iret dX8_line_19 rfl (by first | exact Nat.zero_le _ | decide) (by first | exact Nat.zero_le _ | decide) (by subst hK; exact ⟨(-1), rfl, (trivial), rfl⟩)
    · skip
      exact absurd c59 (by decide)

set_option maxHeartbeats 4000000 in
set_option maxRecDepth 100000 in
theorem k_X8_blurring (l : Launch) (g : zG) (pe : Int32) (ct : Nat → va_E) (n : Int32) (k : Int32) (pr : Int32) (wh : Int32) (hI : Inv8 g idn pe ct) : DM l g pCl false yX8_blurring cX8_blurring 6 (some .int) ({ frames := 5, cells := 0, slots := 0, locals := 116 }) (fun (ct2 : Nat → va_E) (rr : Option Value) => ∃ (r : Int32), rr = some (.int r) ∧ ((True)) ∧ Inv8 g idn pe ct2) ct [.ref 0, .int n, .int k, .int pr, .int wh] := by
  refine DM.K (fun K hK => ?_)
  refine GW.met (own := RX8) (loc := [(0, .ref 0), (1, .int n), (2, .int k), (3, .int pr), (4, .int wh)]) (by decide) rfl rfl (Nat.le_of_ble_eq_true rfl) ?_
  have hpe0 := hI.1
  have rg_n := z_rng n
  have rg_k := z_rng k
  have rg_pr := z_rng pr
  have rg_wh := z_rng wh
  refine dv_iload_n dX8_blurring_0 rfl 1 rfl ?_
  refine dv_iconst (v := 1) dX8_blurring_1 (by decide) ?_
  refine dv_bipush (v := 8) dX8_blurring_2 (by decide) ?_
  refine GW.callS (n := 3) (As := [.int n, .int 1, .int 8]) (rest := []) (k_X8_within l g pe ct n (1 : Int32) (8 : Int32) hI) (fun _ h => Bool.noConfusion h) rfl rfl mm_355 mm_356 mm_52 mm_357 (by decide +kernel) ⟨Nat.le_of_ble_eq_true rfl, Nat.le_of_ble_eq_true rfl⟩ rfl (Nat.le_of_ble_eq_true rfl) dX8_blurring_4 (Nat.zero_le _) (Nat.zero_le _) rfl (fun ct1 rrr2 hBr2 hoff3 => ?_)
  obtain ⟨r2, rfl, hr2, rfl⟩ := hBr2
  refine GW.eq (S2 := [.int r2]) rfl rfl rfl ?_
  rcases hr2 with hr2 | hr2
  · skip
    obtain ⟨rfl, h4, h5⟩ := hr2
    have h4 : (1 : Int) ≤ n.toInt := h4
    have h5 : n.toInt ≤ (8 : Int) := h5
    refine dv_if_eq (tgt := 28) dX8_blurring_7 (by decide) (fun c6 => ?_) (fun c6 => ?_)
    · skip
      exact absurd c6 (by decide)
    · skip
      refine dv_iload_n dX8_blurring_10 rfl 2 rfl ?_
      refine GW.callS (n := 1) (As := [.int k]) (rest := []) (k_X8_isBar l g pe ct k hI) (fun _ h => Bool.noConfusion h) rfl rfl mm_530 mm_531 mm_52 mm_532 (by decide +kernel) ⟨Nat.le_of_ble_eq_true rfl, Nat.le_of_ble_eq_true rfl⟩ rfl (Nat.le_of_ble_eq_true rfl) dX8_blurring_11 (Nat.zero_le _) (Nat.zero_le _) rfl (fun ct7 rrr8 hBr8 hoff9 => ?_)
      obtain ⟨r8, rfl, hr8, rfl⟩ := hBr8
      refine GW.eq (S2 := [.int r8]) rfl rfl rfl ?_
      rcases hr8 with hr8 | hr8
      · skip
        obtain ⟨rfl, h10, h11⟩ := hr8
        have h10 : 1 ≤ k.toInt := h10
        have h11 : k.toInt ≤ 16 := h11
        refine dv_if_eq (tgt := 28) dX8_blurring_14 (by decide) (fun c12 => ?_) (fun c12 => ?_)
        · skip
          exact absurd c12 (by decide)
        · skip
          refine dv_iload_n dX8_blurring_17 rfl 3 rfl ?_
          refine dv_iconst (v := 0) dX8_blurring_18 (by decide) ?_
          refine dv_sipush (v := 9999) dX8_blurring_19 (by decide) ?_
          refine GW.callS (n := 3) (As := [.int pr, .int 0, .int 9999]) (rest := []) (k_X8_within l g pe ct pr (0 : Int32) (9999 : Int32) hI) (fun _ h => Bool.noConfusion h) rfl rfl mm_355 mm_356 mm_52 mm_357 (by decide +kernel) ⟨Nat.le_of_ble_eq_true rfl, Nat.le_of_ble_eq_true rfl⟩ rfl (Nat.le_of_ble_eq_true rfl) dX8_blurring_22 (Nat.zero_le _) (Nat.zero_le _) rfl (fun ct13 rrr14 hBr14 hoff15 => ?_)
          obtain ⟨r14, rfl, hr14, rfl⟩ := hBr14
          refine GW.eq (S2 := [.int r14]) rfl rfl rfl ?_
          rcases hr14 with hr14 | hr14
          · skip
            obtain ⟨rfl, h16, h17⟩ := hr14
            have h16 : (0 : Int) ≤ pr.toInt := h16
            have h17 : pr.toInt ≤ (9999 : Int) := h17
            refine dv_if_ne (tgt := 31) dX8_blurring_25 (by decide) (fun c18 => ?_) (fun c18 => ?_)
            · skip
              refine dv_iload dX8_blurring_31 4 rfl ?_
              refine dv_iconst (v := (-1)) dX8_blurring_33 (by decide) ?_
              refine dv_iconst (v := 4) dX8_blurring_34 (by decide) ?_
              refine GW.callS (n := 3) (As := [.int wh, .int (-1), .int 4]) (rest := []) (k_X8_within l g pe ct wh (-1 : Int32) (4 : Int32) hI) (fun _ h => Bool.noConfusion h) rfl rfl mm_355 mm_356 mm_52 mm_357 (by decide +kernel) ⟨Nat.le_of_ble_eq_true rfl, Nat.le_of_ble_eq_true rfl⟩ rfl (Nat.le_of_ble_eq_true rfl) dX8_blurring_35 (Nat.zero_le _) (Nat.zero_le _) rfl (fun ct19 rrr20 hBr20 hoff21 => ?_)
              obtain ⟨r20, rfl, hr20, rfl⟩ := hBr20
              refine GW.eq (S2 := [.int r20]) rfl rfl rfl ?_
              rcases hr20 with hr20 | hr20
              · skip
                obtain ⟨rfl, h22, h23⟩ := hr20
                have h22 : (-1 : Int) ≤ wh.toInt := h22
                have h23 : wh.toInt ≤ (4 : Int) := h23
                refine dv_if_eq (tgt := 52) dX8_blurring_38 (by decide) (fun c24 => ?_) (fun c24 => ?_)
                · skip
                  exact absurd c24 (by decide)
                · skip
                  refine dv_aload_n dX8_blurring_41 rfl 0 rfl ?_
                  obtain ⟨bk27, dr26, h28, h29, h30, hs25⟩ := a8_0 hI
                  refine dv_get (ci := 8) (v := .ref 3) (C := RX8) (T := TX8) (N := 13) ⟨by decide, rfl⟩ hs25 rfl inG8 2 (by decide) mm_305 rfl dX8_blurring_42 ?_
                  obtain ⟨len32, h33, h34, hs31⟩ := a8_3 hI
                  refine dv_get (ci := 7) (v := .int len32) (C := RX7) (T := TX7) (N := 2) ⟨by decide, rfl⟩ hs31 rfl inG7 0 (by decide) mm_80 rfl dX8_blurring_45 ?_
                  refine dv_iload_n dX8_blurring_48 rfl 1 rfl ?_
                  refine dv_icmp_ge (tgt := 55) dX8_blurring_49 (by decide) (fun c35 => ?_) (fun c35 => ?_)
                  · skip
                    have c35 : n.toInt ≤ len32.toInt := (z_le rfl rfl).mp c35
                    refine dv_aload_n dX8_blurring_55 rfl 0 rfl ?_
                    refine dv_iload_n dX8_blurring_56 rfl 1 rfl ?_
                    refine GW.callV (n := 1) (As := [.int n]) (rest := []) (b := 0) (k_X8_tellsPeople l g pe ct n hI) (fun _ h => h) rfl rfl ⟨by decide, rfl⟩ hs25 (q := (RX8, TX8, 13)) rfl mm_361 mm_363 mm_0 mm_52 mm_364 (by decide +kernel) ⟨Nat.le_of_ble_eq_true rfl, Nat.le_of_ble_eq_true rfl⟩ rfl (Nat.le_of_ble_eq_true rfl) dX8_blurring_57 (Nat.zero_le _) (Nat.zero_le _) rfl (fun ct36 rrr37 hBr37 hoff38 => ?_)
                    obtain ⟨r37, rfl, hr37, rfl⟩ := hBr37
                    refine GW.eq (S2 := [.int r37]) rfl rfl rfl ?_
                    rcases hr37 with hr37 | hr37
                    · skip
                      obtain rfl := hr37
                      refine dv_istore (lv' := [(5, .int 1), (0, .ref 0), (1, .int n), (2, .int k), (3, .int pr), (4, .int wh)]) dX8_blurring_60 (by decide) rfl ?_
                      refine dv_iload dX8_blurring_62 0 rfl ?_
                      refine dv_if_eq (tgt := 82) dX8_blurring_64 (by decide) (fun c39 => ?_) (fun c39 => ?_)
                      · skip
                        exact absurd c39 (by decide)
                      · skip
                        refine dv_aload_n dX8_blurring_67 rfl 1 rfl ?_
                        refine dv_iload_n dX8_blurring_68 rfl 2 rfl ?_
                        refine GW.callV (n := 1) (As := [.int n]) (rest := []) (b := 0) (k_X8_prepareBlurs l g pe ct n hI) (fun _ h => h) rfl rfl ⟨by decide, rfl⟩ hs25 (q := (RX8, TX8, 13)) rfl mm_793 mm_795 mm_44 mm_52 mm_796 (by decide +kernel) ⟨Nat.le_of_ble_eq_true rfl, Nat.le_of_ble_eq_true rfl⟩ rfl (Nat.le_of_ble_eq_true rfl) dX8_blurring_69 (Nat.zero_le _) (Nat.zero_le _) rfl (fun ct40 rrr41 hBr41 hoff42 => ?_)
                        obtain ⟨rfl, hI⟩ := hBr41
                        refine GW.eq (S2 := []) rfl rfl rfl ?_
                        refine dv_aload_n dX8_blurring_72 rfl 1 rfl ?_
                        obtain ⟨bk45, dr44, h46, h47, h48, hs43⟩ := a8_0 hI
                        refine dv_get (ci := 8) (v := .ref 21) (C := RX8) (T := TX8) (N := 13) ⟨by decide, rfl⟩ hs43 rfl inG8 8 (by decide) mm_311 rfl dX8_blurring_73 ?_
                        refine dv_iload_n dX8_blurring_76 rfl 2 rfl ?_
                        refine dv_iload_n dX8_blurring_77 rfl 3 rfl ?_
                        refine dv_iload_n dX8_blurring_78 rfl 4 rfl ?_
                        obtain ⟨lst51, lrw52, lct53, h54, h55, hs50⟩ := a8_21 hI
                        refine GW.callV (n := 3) (As := [.int n, .int k, .int pr]) (rest := []) (b := 21) (k_X1_find l g pe ct40 n k pr hI) sub_pBl_pCl rfl rfl ⟨by decide, rfl⟩ hs50 (q := (RX1, TX1, 7)) rfl mm_826 mm_827 mm_828 mm_57 mm_829 (by decide +kernel) ⟨Nat.le_of_ble_eq_true rfl, Nat.le_of_ble_eq_true rfl⟩ rfl (Nat.le_of_ble_eq_true rfl) dX8_blurring_79 (Nat.zero_le _) (Nat.zero_le _) rfl (fun ct49 rrr56 hBr56 hoff57 => ?_)
                        obtain ⟨rfl, hI⟩ := hBr56
                        refine GW.eq (S2 := []) rfl rfl rfl ?_
                        have hs58 : ct49 0 = .inr (8, [.ref 1, .ref 2, .ref 3, .ref 5, .ref 6, .ref 9, .ref 10, .ref 17, .ref 21, .ref 34, .ref (99 + 3 * dr44), .int pe, .int bk45]) := (hoff57 _ (pBl_no (by decide))).trans hs43
                        refine dv_aload_n dX8_blurring_82 rfl 1 rfl ?_
                        refine dv_get (ci := 8) (v := .ref 3) (C := RX8) (T := TX8) (N := 13) ⟨by decide, rfl⟩ hs58 rfl inG8 2 (by decide) mm_305 rfl dX8_blurring_83 ?_
                        obtain ⟨len61, h62, h63, hs60⟩ := a8_3 hI
                        refine GW.callV (n := 0) (As := []) (rest := []) (b := 3) (k_X7_clear l g pe ct49  hI) sub_pT_pCl rfl rfl ⟨by decide, rfl⟩ hs60 (q := (RX7, TX7, 2)) rfl mm_403 mm_404 mm_405 mm_53 mm_406 (by decide +kernel) ⟨Nat.le_of_ble_eq_true rfl, Nat.le_of_ble_eq_true rfl⟩ rfl (Nat.le_of_ble_eq_true rfl) dX8_blurring_86 (Nat.zero_le _) (Nat.zero_le _) rfl (fun ct59 rrr64 hBr64 hoff65 => ?_)
                        obtain ⟨rfl, hI, hk66⟩ := hBr64
                        refine GW.eq (S2 := []) rfl rfl rfl ?_
                        have hs67 : ct59 0 = .inr (8, [.ref 1, .ref 2, .ref 3, .ref 5, .ref 6, .ref 9, .ref 10, .ref 17, .ref 21, .ref 34, .ref (99 + 3 * dr44), .int pe, .int bk45]) := (hoff65 _ (pT_no (by decide))).trans hs58
                        refine dv_iload dX8_blurring_89 0 rfl ?_
                        refine dv_if_ne (tgt := 97) dX8_blurring_91 (by decide) (fun c68 => ?_) (fun c68 => ?_)
                        · skip
                          refine dv_iload dX8_blurring_97 5 rfl ?_
                          refine dv_iconst (v := (-1)) dX8_blurring_99 (by decide) ?_
                          refine dv_icmp_ne (tgt := 111) dX8_blurring_100 (by decide) (fun c69 => ?_) (fun c69 => ?_)
                          · skip
                            have c69 : ¬ (wh.toInt = (-1)) := fun q => c69 ((z_eq rfl (by decide : ((-1) : Int32).toInt = (-1))).mpr q)
                            refine dv_iload dX8_blurring_111 5 rfl ?_
                            refine dv_iconst (v := 4) dX8_blurring_113 (by decide) ?_
                            refine dv_icmp_ne (tgt := 127) dX8_blurring_114 (by decide) (fun c70 => ?_) (fun c70 => ?_)
                            · skip
                              have c70 : ¬ (wh.toInt = 4) := fun q => c70 ((z_eq rfl (by decide : (4 : Int32).toInt = 4)).mpr q)
                              refine dv_aload_n dX8_blurring_127 rfl 1 rfl ?_
                              refine dv_get (ci := 8) (v := .ref 21) (C := RX8) (T := TX8) (N := 13) ⟨by decide, rfl⟩ hs67 rfl inG8 8 (by decide) mm_311 rfl dX8_blurring_128 ?_
                              obtain ⟨lst72, lrw73, lct74, h75, h76, hs71⟩ := a8_21 hI
                              refine dv_get (ci := 1) (v := .int lrw73) (C := RX1) (T := TX1) (N := 7) ⟨by decide, rfl⟩ hs71 rfl inG1 1 (by decide) mm_187 rfl dX8_blurring_131 ?_
                              refine dv_iload dX8_blurring_134 5 rfl ?_
                              refine GW.callS (n := 2) (As := [.int lrw73, .int wh]) (rest := []) (k_X1_level l g pe ct59 lrw73 wh (by first | omega | decide) hI) (fun _ h => Bool.noConfusion h) rfl rfl mm_847 mm_831 mm_57 mm_832 (by decide +kernel) ⟨Nat.le_of_ble_eq_true rfl, Nat.le_of_ble_eq_true rfl⟩ rfl (Nat.le_of_ble_eq_true rfl) dX8_blurring_136 (Nat.zero_le _) (Nat.zero_le _) rfl (fun ct77 rrr78 hBr78 hoff79 => ?_)
                              obtain ⟨r78, rfl, hr78, rfl⟩ := hBr78
                              refine GW.eq (S2 := [.int r78]) rfl rfl rfl ?_
                              obtain ⟨hr78_0, hr78_1⟩ := hr78
                              have hr78_0 : 0 ≤ r78.toInt := hr78_0
                              have hr78_1 : r78.toInt ≤ 4 := hr78_1
                              exact dv_iret dX8_blurring_139 rfl (by first | exact Nat.zero_le _ | decide) (by first | exact Nat.zero_le _ | decide) (by subst hK; exact ⟨r78, rfl, (trivial), hI⟩)
                            · skip
                              have c70 : wh.toInt = 4 := (z_eq rfl (by decide : (4 : Int32).toInt = 4)).mp c70
                              refine dv_aload_n dX8_blurring_117 rfl 1 rfl ?_
                              refine dv_get (ci := 8) (v := .ref 21) (C := RX8) (T := TX8) (N := 13) ⟨by decide, rfl⟩ hs67 rfl inG8 8 (by decide) mm_311 rfl dX8_blurring_118 ?_
                              obtain ⟨lst81, lrw82, lct83, h84, h85, hs80⟩ := a8_21 hI
                              refine dv_get (ci := 1) (v := .int lct83) (C := RX1) (T := TX1) (N := 7) ⟨by decide, rfl⟩ hs80 rfl inG1 2 (by decide) mm_189 rfl dX8_blurring_121 ?_
                              refine dv_goto (tgt := 139) dX8_blurring_124 (by decide) ?_
                              exact dv_iret dX8_blurring_139 rfl (by first | exact Nat.zero_le _ | decide) (by first | exact Nat.zero_le _ | decide) (by subst hK; exact ⟨lct83, rfl, (trivial), hI⟩)
                          · skip
                            have c69 : wh.toInt = (-1) := (z_eq rfl (by decide : ((-1) : Int32).toInt = (-1))).mp c69
                            refine dv_aload_n dX8_blurring_103 rfl 1 rfl ?_
                            refine dv_get (ci := 8) (v := .ref 21) (C := RX8) (T := TX8) (N := 13) ⟨by decide, rfl⟩ hs67 rfl inG8 8 (by decide) mm_311 rfl dX8_blurring_104 ?_
                            obtain ⟨lst87, lrw88, lct89, h90, h91, hs86⟩ := a8_21 hI
                            refine dv_get (ci := 1) (v := .int lst87) (C := RX1) (T := TX1) (N := 7) ⟨by decide, rfl⟩ hs86 rfl inG1 0 (by decide) mm_185 rfl dX8_blurring_107 ?_
                            exact dv_iret dX8_blurring_110 rfl (by first | exact Nat.zero_le _ | decide) (by first | exact Nat.zero_le _ | decide) (by subst hK; exact ⟨lst87, rfl, (trivial), hI⟩)
                        · skip
                          exact absurd c68 (by decide)
                    · skip
                      obtain rfl := hr37
                      refine dv_istore (lv' := [(5, .int 0), (0, .ref 0), (1, .int n), (2, .int k), (3, .int pr), (4, .int wh)]) dX8_blurring_60 (by decide) rfl ?_
                      refine dv_iload dX8_blurring_62 0 rfl ?_
                      refine dv_if_eq (tgt := 82) dX8_blurring_64 (by decide) (fun c92 => ?_) (fun c92 => ?_)
                      · skip
                        refine dv_aload_n dX8_blurring_82 rfl 1 rfl ?_
                        refine dv_get (ci := 8) (v := .ref 3) (C := RX8) (T := TX8) (N := 13) ⟨by decide, rfl⟩ hs25 rfl inG8 2 (by decide) mm_305 rfl dX8_blurring_83 ?_
                        refine GW.callV (n := 0) (As := []) (rest := []) (b := 3) (k_X7_clear l g pe ct  hI) sub_pT_pCl rfl rfl ⟨by decide, rfl⟩ hs31 (q := (RX7, TX7, 2)) rfl mm_403 mm_404 mm_405 mm_53 mm_406 (by decide +kernel) ⟨Nat.le_of_ble_eq_true rfl, Nat.le_of_ble_eq_true rfl⟩ rfl (Nat.le_of_ble_eq_true rfl) dX8_blurring_86 (Nat.zero_le _) (Nat.zero_le _) rfl (fun ct93 rrr94 hBr94 hoff95 => ?_)
                        obtain ⟨rfl, hI, hk96⟩ := hBr94
                        refine GW.eq (S2 := []) rfl rfl rfl ?_
                        have hs97 : ct93 0 = .inr (8, [.ref 1, .ref 2, .ref 3, .ref 5, .ref 6, .ref 9, .ref 10, .ref 17, .ref 21, .ref 34, .ref (99 + 3 * dr26), .int pe, .int bk27]) := (hoff95 _ (pT_no (by decide))).trans hs25
                        refine dv_iload dX8_blurring_89 0 rfl ?_
                        refine dv_if_ne (tgt := 97) dX8_blurring_91 (by decide) (fun c98 => ?_) (fun c98 => ?_)
                        · skip
                          exact absurd c98 (by decide)
                        · skip
                          refine dv_bipush (v := (-2)) dX8_blurring_94 (by decide) ?_
                          have q99 : ((-2) : Int32).toInt = -2 := by decide
                          exact dv_iret dX8_blurring_96 rfl (by first | exact Nat.zero_le _ | decide) (by first | exact Nat.zero_le _ | decide) (by subst hK; exact ⟨(-2), rfl, (trivial), hI⟩)
                      · skip
                        exact absurd c92 (by decide)
                  · skip
                    have c35 : ¬ (n.toInt ≤ len32.toInt) := fun q => c35 ((z_le rfl rfl).mpr q)
                    refine dv_bipush (v := (-3)) dX8_blurring_52 (by decide) ?_
                    have q100 : ((-3) : Int32).toInt = -3 := by decide
                    exact dv_iret dX8_blurring_54 rfl (by first | exact Nat.zero_le _ | decide) (by first | exact Nat.zero_le _ | decide) (by subst hK; exact ⟨(-3), rfl, (trivial), hI⟩)
              · skip
                obtain ⟨rfl, h101⟩ := hr20
                have h101 : ¬ ((-1 : Int) ≤ wh.toInt ∧ wh.toInt ≤ (4 : Int)) := h101
                refine dv_if_eq (tgt := 52) dX8_blurring_38 (by decide) (fun c102 => ?_) (fun c102 => ?_)
                · skip
                  refine dv_bipush (v := (-3)) dX8_blurring_52 (by decide) ?_
                  have q103 : ((-3) : Int32).toInt = -3 := by decide
                  exact dv_iret dX8_blurring_54 rfl (by first | exact Nat.zero_le _ | decide) (by first | exact Nat.zero_le _ | decide) (by subst hK; exact ⟨(-3), rfl, (trivial), hI⟩)
                · skip
                  exact absurd c102 (by decide)
            · skip
              exact absurd c18 (by decide)
          · skip
            obtain ⟨rfl, h104⟩ := hr14
            have h104 : ¬ ((0 : Int) ≤ pr.toInt ∧ pr.toInt ≤ (9999 : Int)) := h104
            refine dv_if_ne (tgt := 31) dX8_blurring_25 (by decide) (fun c105 => ?_) (fun c105 => ?_)
            · skip
              exact absurd c105 (by decide)
            · skip
              refine dv_bipush (v := (-3)) dX8_blurring_28 (by decide) ?_
              have q106 : ((-3) : Int32).toInt = -3 := by decide
              exact dv_iret dX8_blurring_30 rfl (by first | exact Nat.zero_le _ | decide) (by first | exact Nat.zero_le _ | decide) (by subst hK; exact ⟨(-3), rfl, (trivial), hI⟩)
      · skip
        obtain ⟨rfl, h107⟩ := hr8
        have h107 : ¬ (1 ≤ k.toInt ∧ k.toInt ≤ 16) := h107
        refine dv_if_eq (tgt := 28) dX8_blurring_14 (by decide) (fun c108 => ?_) (fun c108 => ?_)
        · skip
          refine dv_bipush (v := (-3)) dX8_blurring_28 (by decide) ?_
          have q109 : ((-3) : Int32).toInt = -3 := by decide
          exact dv_iret dX8_blurring_30 rfl (by first | exact Nat.zero_le _ | decide) (by first | exact Nat.zero_le _ | decide) (by subst hK; exact ⟨(-3), rfl, (trivial), hI⟩)
        · skip
          exact absurd c108 (by decide)
  · skip
    obtain ⟨rfl, h110⟩ := hr2
    have h110 : ¬ ((1 : Int) ≤ n.toInt ∧ n.toInt ≤ (8 : Int)) := h110
    refine dv_if_eq (tgt := 28) dX8_blurring_7 (by decide) (fun c111 => ?_) (fun c111 => ?_)
    · skip
      refine dv_bipush (v := (-3)) dX8_blurring_28 (by decide) ?_
      have q112 : ((-3) : Int32).toInt = -3 := by decide
      exact dv_iret dX8_blurring_30 rfl (by first | exact Nat.zero_le _ | decide) (by first | exact Nat.zero_le _ | decide) (by subst hK; exact ⟨(-3), rfl, (trivial), hI⟩)
    · skip
      exact absurd c111 (by decide)

set_option maxHeartbeats 4000000 in
set_option maxRecDepth 100000 in
theorem k_X8_loss (l : Launch) (g : zG) (pe : Int32) (ct : Nat → va_E) (b : Int32) (hI : Inv8 g idn pe ct) : DM l g pCl false yX8_loss cX8_loss 4 (some .int) ({ frames := 3, cells := 0, slots := 0, locals := 66 }) (fun (ct2 : Nat → va_E) (rr : Option Value) => ∃ (r : Int32), rr = some (.int r) ∧ ((True)) ∧ ct = ct2) ct [.ref 0, .int b] := by
  refine DM.K (fun K hK => ?_)
  refine GW.met (own := RX8) (loc := [(0, .ref 0), (1, .int b)]) (by decide) rfl rfl (Nat.le_of_ble_eq_true rfl) ?_
  have hpe0 := hI.1
  have rg_b := z_rng b
  refine dv_aload_n dX8_loss_0 rfl 0 rfl ?_
  refine dv_iload_n dX8_loss_1 rfl 1 rfl ?_
  obtain ⟨bk4, dr3, h5, h6, h7, hs2⟩ := a8_0 hI
  refine GW.callV (n := 1) (As := [.int b]) (rest := []) (b := 0) (k_X8_isBook l g pe ct b hI) (fun _ h => h) rfl rfl ⟨by decide, rfl⟩ hs2 (q := (RX8, TX8, 13)) rfl mm_415 mm_417 mm_4 mm_52 mm_418 (by decide +kernel) ⟨Nat.le_of_ble_eq_true rfl, Nat.le_of_ble_eq_true rfl⟩ rfl (Nat.le_of_ble_eq_true rfl) dX8_loss_2 (Nat.zero_le _) (Nat.zero_le _) rfl (fun ct1 rrr8 hBr8 hoff9 => ?_)
  obtain ⟨r8, rfl, hr8, rfl⟩ := hBr8
  refine GW.eq (S2 := [.int r8]) rfl rfl rfl ?_
  rcases hr8 with hr8 | hr8
  · skip
    obtain ⟨rfl, h10, h11⟩ := hr8
    have h10 : 0 ≤ b.toInt := h10
    have h11 : b.toInt ≤ 3 := h11
    refine dv_if_ne (tgt := 10) dX8_loss_5 (by decide) (fun c12 => ?_) (fun c12 => ?_)
    · skip
      refine dv_iconst (v := 0) dX8_loss_10 (by decide) ?_
      refine dv_istore_n (lv' := [(2, .int 0), (0, .ref 0), (1, .int b)]) dX8_loss_11 rfl (by decide) rfl ?_
      refine dv_iconst (v := 0) dX8_loss_12 (by decide) ?_
      refine dv_istore_n (lv' := [(3, .int 0), (2, .int 0), (0, .ref 0), (1, .int b)]) dX8_loss_13 rfl (by decide) rfl ?_
      have loop14 : ∀ (n14 : Nat) (v3_14 : Int32) (v2_14 : Int32), ((8 - v3_14.toInt : Int).toNat < n14) → (0 ≤ v3_14.toInt ∧ v3_14.toInt ≤ 8) → GW l g pCl pCl false yX8_loss cX8_loss 4 (some .int) RX8 ({ frames := 3, cells := 0, slots := 0, locals := 66 }) K 0 0 ct 14 [(3, .int v3_14), (2, .int v2_14), (0, .ref 0), (1, .int b)] [] := by
        intro n14
        induction n14 with
        | zero =>
          intro v3_14 v2_14 hn14 b3_14
          exact absurd hn14 (Nat.not_lt_zero _)
        | succ n14 ih14 =>
          intro v3_14 v2_14 hn14 b3_14
          refine dv_iload_n dX8_loss_14 rfl 0 rfl ?_
          refine dv_bipush (v := 8) dX8_loss_15 (by decide) ?_
          refine dv_icmp_ge (tgt := 53) dX8_loss_17 (by decide) (fun c13 => ?_) (fun c13 => ?_)
          · skip
            have c13 : 8 ≤ v3_14.toInt := (z_le (by decide : (8 : Int32).toInt = 8) rfl).mp c13
            refine dv_iload_n dX8_loss_53 rfl 1 rfl ?_
            exact dv_iret dX8_loss_54 rfl (by first | exact Nat.zero_le _ | decide) (by first | exact Nat.zero_le _ | decide) (by subst hK; exact ⟨v2_14, rfl, (trivial), rfl⟩)
          · skip
            have c13 : ¬ (8 ≤ v3_14.toInt) := fun q => c13 ((z_le (by decide : (8 : Int32).toInt = 8) rfl).mpr q)
            refine dv_iload_n dX8_loss_20 rfl 1 rfl ?_
            refine dv_aload_n dX8_loss_21 rfl 2 rfl ?_
            refine dv_iload_n dX8_loss_22 rfl 3 rfl ?_
            refine dv_iload_n dX8_loss_23 rfl 0 rfl ?_
            refine GW.callV (n := 2) (As := [.int b, .int v3_14]) (rest := [.int v2_14]) (b := 0) (k_X8_isLive l g pe ct b v3_14 hI) (fun _ h => h) rfl rfl ⟨by decide, rfl⟩ hs2 (q := (RX8, TX8, 13)) rfl mm_422 mm_424 mm_5 mm_52 mm_425 (by decide +kernel) ⟨Nat.le_of_ble_eq_true rfl, Nat.le_of_ble_eq_true rfl⟩ rfl (Nat.le_of_ble_eq_true rfl) dX8_loss_24 (Nat.zero_le _) (Nat.zero_le _) rfl (fun ct14 rrr15 hBr15 hoff16 => ?_)
            obtain ⟨r15, rfl, hr15, rfl⟩ := hBr15
            refine GW.eq (S2 := [.int r15, .int v2_14]) rfl rfl rfl ?_
            rcases hr15 with hr15 | hr15
            · skip
              obtain ⟨rfl, h17, h18⟩ := hr15
              have h17 : 0 ≤ b.toInt ∧ b.toInt ≤ 3 := h17
              have h18 : 0 ≤ v3_14.toInt ∧ v3_14.toInt ≤ 7 := h18
              refine dv_if_eq (tgt := 44) dX8_loss_27 (by decide) (fun c19 => ?_) (fun c19 => ?_)
              · skip
                exact absurd c19 (by decide)
              · skip
                refine dv_aload_n dX8_loss_30 rfl 2 rfl ?_
                refine dv_aload_n dX8_loss_31 rfl 2 rfl ?_
                refine dv_get (ci := 8) (v := .ref 5) (C := RX8) (T := TX8) (N := 13) ⟨by decide, rfl⟩ hs2 rfl inG8 3 (by decide) mm_306 rfl dX8_loss_32 ?_
                refine dv_iload_n dX8_loss_35 rfl 3 rfl ?_
                have hs20 := a8_5 hI
                refine dv_aldq 5 ⟨by decide, rfl⟩ hs20 rfl (z_in rfl (by omega) (by omega)) dX8_loss_36 (r := (0 + 55 + 11 * b.toInt.toNat)) (zF5_r (x := b) (by omega) (by omega)) ?_
                refine dv_iload_n dX8_loss_37 rfl 0 rfl ?_
                refine GW.callV (n := 2) (As := [.ref (0 + 55 + 11 * b.toInt.toNat), .int v3_14]) (rest := [.int v2_14]) (b := 0) (k_X8_lossOfLine l g pe ct (0 + 55 + 11 * b.toInt.toNat) v3_14 (by omega) hI) (fun _ h => h) rfl rfl ⟨by decide, rfl⟩ hs2 (q := (RX8, TX8, 13)) rfl mm_891 mm_893 mm_50 mm_52 mm_894 (by decide +kernel) ⟨Nat.le_of_ble_eq_true rfl, Nat.le_of_ble_eq_true rfl⟩ rfl (Nat.le_of_ble_eq_true rfl) dX8_loss_38 (Nat.zero_le _) (Nat.zero_le _) rfl (fun ct21 rrr22 hBr22 hoff23 => ?_)
                obtain ⟨r22, rfl, hr22, rfl⟩ := hBr22
                refine GW.eq (S2 := [.int r22, .int v2_14]) rfl rfl rfl ?_
                refine dv_goto (tgt := 45) dX8_loss_41 (by decide) ?_
                refine dv_iadd dX8_loss_45 ?_
                refine dv_topi (fun x24 ex24 => ?_)
                refine dv_istore_n (lv' := [(2, .int x24), (3, .int v3_14), (0, .ref 0), (1, .int b)]) dX8_loss_46 rfl (by decide) rfl ?_
                obtain ⟨x25, ex25⟩ : ∃ y : Int32, y = v3_14 + 1 := ⟨_, rfl⟩
                have tx25 : x25.toInt = v3_14.toInt + 1 := by rw [ex25]; exact z_add rfl (by decide : (1 : Int32).toInt = 1) (by omega) (by omega)
                refine dv_iinc (v := x25) (lv' := [(3, .int x25), (2, .int x24), (0, .ref 0), (1, .int b)]) dX8_loss_47 (k := 1) rfl (by rw [ex25]; rfl) (by decide) rfl ?_
                refine dv_goto (tgt := 14) dX8_loss_50 (by decide) ?_
                exact ih14 x25 x24 (by omega) (by first | omega | decide | assumption)
            · skip
              obtain rfl := hr15
              refine dv_if_eq (tgt := 44) dX8_loss_27 (by decide) (fun c26 => ?_) (fun c26 => ?_)
              · skip
                refine dv_iconst (v := 0) dX8_loss_44 (by decide) ?_
                refine dv_iadd dX8_loss_45 ?_
                refine dv_topi (fun x27 ex27 => ?_)
                refine dv_istore_n (lv' := [(2, .int x27), (3, .int v3_14), (0, .ref 0), (1, .int b)]) dX8_loss_46 rfl (by decide) rfl ?_
                obtain ⟨x28, ex28⟩ : ∃ y : Int32, y = v3_14 + 1 := ⟨_, rfl⟩
                have tx28 : x28.toInt = v3_14.toInt + 1 := by rw [ex28]; exact z_add rfl (by decide : (1 : Int32).toInt = 1) (by omega) (by omega)
                refine dv_iinc (v := x28) (lv' := [(3, .int x28), (2, .int x27), (0, .ref 0), (1, .int b)]) dX8_loss_47 (k := 1) rfl (by rw [ex28]; rfl) (by decide) rfl ?_
                refine dv_goto (tgt := 14) dX8_loss_50 (by decide) ?_
                exact ih14 x28 x27 (by omega) (by first | omega | decide | assumption)
              · skip
                exact absurd c26 (by decide)
      exact loop14 ((8 - (0 : Int32).toInt : Int).toNat + 1) (0 : Int32) (0 : Int32) (by omega) (by first | omega | decide | assumption)
    · skip
      exact absurd c12 (by decide)
  · skip
    obtain rfl := hr8
    refine dv_if_ne (tgt := 10) dX8_loss_5 (by decide) (fun c29 => ?_) (fun c29 => ?_)
    · skip
      exact absurd c29 (by decide)
    · skip
      refine dv_iconst (v := (-1)) dX8_loss_8 (by decide) ?_
      have q30 : ((-1) : Int32).toInt = -1 := by decide
      exact dv_iret dX8_loss_9 rfl (by first | exact Nat.zero_le _ | decide) (by first | exact Nat.zero_le _ | decide) (by subst hK; exact ⟨(-1), rfl, (trivial), rfl⟩)

set_option maxHeartbeats 4000000 in
set_option maxRecDepth 100000 in
theorem k_X8_count (l : Launch) (g : zG) (pe : Int32) (ct : Nat → va_E) (wh : Int32) (hI : Inv8 g idn pe ct) : DM l g pCl false yX8_count cX8_count 2 (some .int) ({ frames := 1, cells := 0, slots := 0, locals := 22 }) (fun (ct2 : Nat → va_E) (rr : Option Value) => ∃ (r : Int32), rr = some (.int r) ∧ ((True)) ∧ ct = ct2) ct [.ref 0, .int wh] := by
  refine DM.K (fun K hK => ?_)
  refine GW.met (own := RX8) (loc := [(0, .ref 0), (1, .int wh)]) (by decide) rfl rfl (Nat.le_of_ble_eq_true rfl) ?_
  have hpe0 := hI.1
  have rg_wh := z_rng wh
  refine dv_iload_n dX8_count_0 rfl 1 rfl ?_
  rcases (show wh.toInt = 0 ∨ wh.toInt = 1 ∨ wh.toInt = 2 ∨ wh.toInt = 3 ∨ wh.toInt = 4 ∨ wh.toInt = 5 ∨ wh.toInt < 0 ∨ 5 < wh.toInt by omega) with hw1 | hw1 | hw1 | hw1 | hw1 | hw1 | hw1
  · skip
    refine dv_tableIn (tgt := 40) (off := 39) dX8_count_1 (by omega) (by omega) (by rw [hw1]; rfl) (by decide) ?_
    refine dv_aload_n dX8_count_40 rfl 0 rfl ?_
    obtain ⟨bk4, dr3, h5, h6, h7, hs2⟩ := a8_0 hI
    refine dv_get (ci := 8) (v := .int pe) (C := RX8) (T := TX8) (N := 13) ⟨by decide, rfl⟩ hs2 rfl inG8 11 (by decide) mm_314 rfl dX8_count_41 ?_
    exact dv_iret dX8_count_44 rfl (by first | exact Nat.zero_le _ | decide) (by first | exact Nat.zero_le _ | decide) (by subst hK; exact ⟨pe, rfl, (trivial), rfl⟩)
  · skip
    refine dv_tableIn (tgt := 45) (off := 44) dX8_count_1 (by omega) (by omega) (by rw [hw1]; rfl) (by decide) ?_
    refine dv_aload_n dX8_count_45 rfl 0 rfl ?_
    obtain ⟨bk10, dr9, h11, h12, h13, hs8⟩ := a8_0 hI
    refine dv_get (ci := 8) (v := .int bk10) (C := RX8) (T := TX8) (N := 13) ⟨by decide, rfl⟩ hs8 rfl inG8 12 (by decide) mm_315 rfl dX8_count_46 ?_
    exact dv_iret dX8_count_49 rfl (by first | exact Nat.zero_le _ | decide) (by first | exact Nat.zero_le _ | decide) (by subst hK; exact ⟨bk10, rfl, (trivial), rfl⟩)
  · skip
    refine dv_tableIn (tgt := 50) (off := 49) dX8_count_1 (by omega) (by omega) (by rw [hw1]; rfl) (by decide) ?_
    refine dv_aload_n dX8_count_50 rfl 0 rfl ?_
    obtain ⟨bk16, dr15, h17, h18, h19, hs14⟩ := a8_0 hI
    refine dv_get (ci := 8) (v := .ref 6) (C := RX8) (T := TX8) (N := 13) ⟨by decide, rfl⟩ hs14 rfl inG8 4 (by decide) mm_307 rfl dX8_count_51 ?_
    obtain ⟨num21, h22, h23, hs20⟩ := a8_6 hI
    refine dv_get (ci := 5) (v := .int num21) (C := RX5) (T := TX5) (N := 3) ⟨by decide, rfl⟩ hs20 rfl inG5 0 (by decide) mm_97 rfl dX8_count_54 ?_
    exact dv_iret dX8_count_57 rfl (by first | exact Nat.zero_le _ | decide) (by first | exact Nat.zero_le _ | decide) (by subst hK; exact ⟨num21, rfl, (trivial), rfl⟩)
  · skip
    refine dv_tableIn (tgt := 58) (off := 57) dX8_count_1 (by omega) (by omega) (by rw [hw1]; rfl) (by decide) ?_
    refine dv_aload_n dX8_count_58 rfl 0 rfl ?_
    obtain ⟨bk27, dr26, h28, h29, h30, hs25⟩ := a8_0 hI
    refine GW.callV (n := 0) (As := []) (rest := []) (b := 0) (k_X8_toldGossips l g pe ct  hI) (fun _ h => h) rfl rfl ⟨by decide, rfl⟩ hs25 (q := (RX8, TX8, 13)) rfl mm_855 mm_857 mm_49 mm_52 mm_858 (by decide +kernel) ⟨Nat.le_of_ble_eq_true rfl, Nat.le_of_ble_eq_true rfl⟩ rfl (Nat.le_of_ble_eq_true rfl) dX8_count_59 (Nat.zero_le _) (Nat.zero_le _) rfl (fun ct24 rrr31 hBr31 hoff32 => ?_)
    obtain ⟨r31, rfl, hr31, rfl⟩ := hBr31
    refine GW.eq (S2 := [.int r31]) rfl rfl rfl ?_
    exact dv_iret dX8_count_62 rfl (by first | exact Nat.zero_le _ | decide) (by first | exact Nat.zero_le _ | decide) (by subst hK; exact ⟨r31, rfl, (trivial), rfl⟩)
  · skip
    refine dv_tableIn (tgt := 63) (off := 62) dX8_count_1 (by omega) (by omega) (by rw [hw1]; rfl) (by decide) ?_
    refine dv_aload_n dX8_count_63 rfl 0 rfl ?_
    obtain ⟨bk35, dr34, h36, h37, h38, hs33⟩ := a8_0 hI
    refine dv_get (ci := 8) (v := .ref 3) (C := RX8) (T := TX8) (N := 13) ⟨by decide, rfl⟩ hs33 rfl inG8 2 (by decide) mm_305 rfl dX8_count_64 ?_
    obtain ⟨len40, h41, h42, hs39⟩ := a8_3 hI
    refine dv_get (ci := 7) (v := .int len40) (C := RX7) (T := TX7) (N := 2) ⟨by decide, rfl⟩ hs39 rfl inG7 0 (by decide) mm_80 rfl dX8_count_67 ?_
    exact dv_iret dX8_count_70 rfl (by first | exact Nat.zero_le _ | decide) (by first | exact Nat.zero_le _ | decide) (by subst hK; exact ⟨len40, rfl, (trivial), rfl⟩)
  · skip
    refine dv_tableIn (tgt := 71) (off := 70) dX8_count_1 (by omega) (by omega) (by rw [hw1]; rfl) (by decide) ?_
    refine dv_aload_n dX8_count_71 rfl 0 rfl ?_
    obtain ⟨bk46, dr45, h47, h48, h49, hs44⟩ := a8_0 hI
    refine GW.callV (n := 0) (As := []) (rest := []) (b := 0) (k_X8_shownBooks l g pe ct  hI) (fun _ h => h) rfl rfl ⟨by decide, rfl⟩ hs44 (q := (RX8, TX8, 13)) rfl mm_434 mm_436 mm_8 mm_52 mm_437 (by decide +kernel) ⟨Nat.le_of_ble_eq_true rfl, Nat.le_of_ble_eq_true rfl⟩ rfl (Nat.le_of_ble_eq_true rfl) dX8_count_72 (Nat.zero_le _) (Nat.zero_le _) rfl (fun ct43 rrr50 hBr50 hoff51 => ?_)
    obtain ⟨r50, rfl, hr50, rfl⟩ := hBr50
    refine GW.eq (S2 := [.int r50]) rfl rfl rfl ?_
    obtain ⟨hr50_0, hr50_1⟩ := hr50
    have hr50_0 : 0 ≤ r50.toInt := hr50_0
    have hr50_1 : r50.toInt ≤ 15 := hr50_1
    exact dv_iret dX8_count_75 rfl (by first | exact Nat.zero_le _ | decide) (by first | exact Nat.zero_le _ | decide) (by subst hK; exact ⟨r50, rfl, (trivial), rfl⟩)
  · skip
    refine dv_tableOut (tgt := 76) dX8_count_1 (by omega) (by decide) ?_
    refine dv_aload_n dX8_count_76 rfl 0 rfl ?_
    refine dv_iload_n dX8_count_77 rfl 1 rfl ?_
    refine dv_bipush (v := 10) dX8_count_78 (by decide) ?_
    refine dv_isub dX8_count_80 ?_
    refine dv_topi (fun x52 ex52 => ?_)
    obtain ⟨bk56, dr55, h57, h58, h59, hs54⟩ := a8_0 hI
    refine GW.callV (n := 1) (As := [.int x52]) (rest := []) (b := 0) (k_X8_isBook l g pe ct x52 hI) (fun _ h => h) rfl rfl ⟨by decide, rfl⟩ hs54 (q := (RX8, TX8, 13)) rfl mm_415 mm_417 mm_4 mm_52 mm_418 (by decide +kernel) ⟨Nat.le_of_ble_eq_true rfl, Nat.le_of_ble_eq_true rfl⟩ rfl (Nat.le_of_ble_eq_true rfl) dX8_count_81 (Nat.zero_le _) (Nat.zero_le _) rfl (fun ct53 rrr60 hBr60 hoff61 => ?_)
    obtain ⟨r60, rfl, hr60, rfl⟩ := hBr60
    refine GW.eq (S2 := [.int r60]) rfl rfl rfl ?_
    rcases hr60 with hr60 | hr60
    · skip
      obtain ⟨rfl, h62, h63⟩ := hr60
      have h62 : 0 ≤ x52.toInt := h62
      have h63 : x52.toInt ≤ 3 := h63
      refine dv_if_eq (tgt := 100) dX8_count_84 (by decide) (fun c64 => ?_) (fun c64 => ?_)
      · skip
        exact absurd c64 (by decide)
      · skip
        refine dv_aload_n dX8_count_87 rfl 0 rfl ?_
        refine dv_get (ci := 8) (v := .ref 5) (C := RX8) (T := TX8) (N := 13) ⟨by decide, rfl⟩ hs54 rfl inG8 3 (by decide) mm_306 rfl dX8_count_88 ?_
        refine dv_iload_n dX8_count_91 rfl 1 rfl ?_
        refine dv_bipush (v := 10) dX8_count_92 (by decide) ?_
        refine dv_isub dX8_count_94 ?_
        refine dv_topi (fun x65 ex65 => ?_)
        obtain rfl : x52 = x65 := ex52.trans ex65.symm
        have hs66 := a8_5 hI
        refine dv_aldq 5 ⟨by decide, rfl⟩ hs66 rfl (z_in rfl (by omega) (by omega)) dX8_count_95 (r := (0 + 55 + 11 * x52.toInt.toNat)) (zF5_r (x := x52) (by omega) (by omega)) ?_
        obtain ⟨lns68, liv69, shw70, h71, h72, h73, h74, hz75, h76, hs67⟩ := a8_40 (kc := (0 + 55 + 11 * x52.toInt.toNat)) (by omega) hI
        have bhz75 := z_b01 hz75
        refine dv_get (ci := 2) (v := .int lns68) (C := RX2) (T := TX2) (N := 5) ⟨by omega, pCl_of (by omega)⟩ hs67 rfl inG2 0 (by decide) mm_285 rfl dX8_count_96 ?_
        exact dv_iret dX8_count_99 rfl (by first | exact Nat.zero_le _ | decide) (by first | exact Nat.zero_le _ | decide) (by subst hK; exact ⟨lns68, rfl, (trivial), rfl⟩)
    · skip
      obtain rfl := hr60
      refine dv_if_eq (tgt := 100) dX8_count_84 (by decide) (fun c77 => ?_) (fun c77 => ?_)
      · skip
        refine dv_iload_n dX8_count_100 rfl 1 rfl ?_
        refine dv_bipush (v := 20) dX8_count_101 (by decide) ?_
        refine dv_isub dX8_count_103 ?_
        refine dv_topi (fun x78 ex78 => ?_)
        refine GW.callS (n := 1) (As := [.int x78]) (rest := []) (k_X8_isColumn l g pe ct x78 hI) (fun _ h => Bool.noConfusion h) rfl rfl mm_547 mm_401 mm_52 mm_402 (by decide +kernel) ⟨Nat.le_of_ble_eq_true rfl, Nat.le_of_ble_eq_true rfl⟩ rfl (Nat.le_of_ble_eq_true rfl) dX8_count_104 (Nat.zero_le _) (Nat.zero_le _) rfl (fun ct79 rrr80 hBr80 hoff81 => ?_)
        obtain ⟨r80, rfl, hr80, rfl⟩ := hBr80
        refine GW.eq (S2 := [.int r80]) rfl rfl rfl ?_
        rcases hr80 with hr80 | hr80
        · skip
          obtain ⟨rfl, h82, h83⟩ := hr80
          have h82 : 0 ≤ x78.toInt := h82
          have h83 : x78.toInt ≤ 3 := h83
          refine dv_if_eq (tgt := 123) dX8_count_107 (by decide) (fun c84 => ?_) (fun c84 => ?_)
          · skip
            exact absurd c84 (by decide)
          · skip
            refine dv_aload_n dX8_count_110 rfl 0 rfl ?_
            refine dv_get (ci := 8) (v := .ref 1) (C := RX8) (T := TX8) (N := 13) ⟨by decide, rfl⟩ hs54 rfl inG8 0 (by decide) mm_303 rfl dX8_count_111 ?_
            refine dv_iload_n dX8_count_114 rfl 1 rfl ?_
            refine dv_bipush (v := 20) dX8_count_115 (by decide) ?_
            refine dv_isub dX8_count_117 ?_
            refine dv_topi (fun x85 ex85 => ?_)
            obtain rfl : x78 = x85 := ex78.trans ex85.symm
            have hs86 := a8_1 hI
            refine dv_aldq 4 ⟨by decide, rfl⟩ hs86 rfl (z_in rfl (by omega) (by omega)) dX8_count_118 (r := (0 + 35 + 5 * x78.toInt.toNat)) (zF1_r (x := x78) (by omega) (by omega)) ?_
            obtain ⟨we88, se89, h90, h91, hs87⟩ := a8_35 (kc := (0 + 35 + 5 * x78.toInt.toNat)) (by omega) hI
            refine dv_get (ci := 3) (v := .int we88) (C := RX3) (T := TX3) (N := 6) ⟨by omega, pCl_of (by omega)⟩ hs87 rfl inG3 0 (by decide) mm_259 rfl dX8_count_119 ?_
            exact dv_iret dX8_count_122 rfl (by first | exact Nat.zero_le _ | decide) (by first | exact Nat.zero_le _ | decide) (by subst hK; exact ⟨we88, rfl, (trivial), rfl⟩)
        · skip
          obtain ⟨rfl, h92⟩ := hr80
          have h92 : ¬ (0 ≤ x78.toInt ∧ x78.toInt ≤ 3) := h92
          refine dv_if_eq (tgt := 123) dX8_count_107 (by decide) (fun c93 => ?_) (fun c93 => ?_)
          · skip
            refine dv_aload_n dX8_count_123 rfl 0 rfl ?_
            refine dv_iload_n dX8_count_124 rfl 1 rfl ?_
            refine dv_bipush (v := 30) dX8_count_125 (by decide) ?_
            refine dv_isub dX8_count_127 ?_
            refine dv_topi (fun x94 ex94 => ?_)
            refine GW.callV (n := 1) (As := [.int x94]) (rest := []) (b := 0) (k_X8_isPerson l g pe ct x94 hI) (fun _ h => h) rfl rfl ⟨by decide, rfl⟩ hs54 (q := (RX8, TX8, 13)) rfl mm_370 mm_372 mm_1 mm_52 mm_373 (by decide +kernel) ⟨Nat.le_of_ble_eq_true rfl, Nat.le_of_ble_eq_true rfl⟩ rfl (Nat.le_of_ble_eq_true rfl) dX8_count_128 (Nat.zero_le _) (Nat.zero_le _) rfl (fun ct95 rrr96 hBr96 hoff97 => ?_)
            obtain ⟨r96, rfl, hr96, rfl⟩ := hBr96
            refine GW.eq (S2 := [.int r96]) rfl rfl rfl ?_
            rcases hr96 with hr96 | hr96
            · skip
              obtain ⟨rfl, h98, h99⟩ := hr96
              have h98 : 0 ≤ x94.toInt := h98
              have h99 : x94.toInt < pe.toInt := h99
              refine dv_if_eq (tgt := 146) dX8_count_131 (by decide) (fun c100 => ?_) (fun c100 => ?_)
              · skip
                exact absurd c100 (by decide)
              · skip
                refine dv_aload_n dX8_count_134 rfl 0 rfl ?_
                refine dv_get (ci := 8) (v := .ref 2) (C := RX8) (T := TX8) (N := 13) ⟨by decide, rfl⟩ hs54 rfl inG8 1 (by decide) mm_304 rfl dX8_count_135 ?_
                refine dv_iload_n dX8_count_138 rfl 1 rfl ?_
                refine dv_bipush (v := 30) dX8_count_139 (by decide) ?_
                refine dv_isub dX8_count_141 ?_
                refine dv_topi (fun x101 ex101 => ?_)
                obtain rfl : x94 = x101 := ex94.trans ex101.symm
                obtain ⟨f103, hs102⟩ := a8_2 hI
                refine dv_iald 0 ⟨by decide, rfl⟩ hs102 rfl (z_in rfl (by omega) (by omega)) dX8_count_142 ?_
                refine dv_topi (fun y104 ey104 => ?_)
                refine dv_goto (tgt := 147) dX8_count_143 (by decide) ?_
                exact dv_iret dX8_count_147 rfl (by first | exact Nat.zero_le _ | decide) (by first | exact Nat.zero_le _ | decide) (by subst hK; exact ⟨y104, rfl, (trivial), rfl⟩)
            · skip
              obtain ⟨rfl, h105⟩ := hr96
              have h105 : ¬ (0 ≤ x94.toInt ∧ x94.toInt < pe.toInt) := h105
              refine dv_if_eq (tgt := 146) dX8_count_131 (by decide) (fun c106 => ?_) (fun c106 => ?_)
              · skip
                refine dv_iconst (v := (-1)) dX8_count_146 (by decide) ?_
                have q107 : ((-1) : Int32).toInt = -1 := by decide
                exact dv_iret dX8_count_147 rfl (by first | exact Nat.zero_le _ | decide) (by first | exact Nat.zero_le _ | decide) (by subst hK; exact ⟨(-1), rfl, (trivial), rfl⟩)
              · skip
                exact absurd c106 (by decide)
          · skip
            exact absurd c93 (by decide)
      · skip
        exact absurd c77 (by decide)

set_option maxHeartbeats 4000000 in
set_option maxRecDepth 100000 in
theorem k_X8_person (l : Launch) (g : zG) (pe : Int32) (ct : Nat → va_E) (a0 : Int32) (b0 : Int32) (c0 : Int32) (d0 : Int32) (hI : Inv8 g idn pe ct) : DM l g pCl false yX8_person cX8_person 6 (some .int) ({ frames := 28, cells := 0, slots := 0, locals := 694 }) (fun (ct2 : Nat → va_E) (rr : Option Value) => ∃ (r : Int32) (u : Int32), rr = some (.int r) ∧ ((r = (-1) ∧ (u = pe) ∧ (¬ ((0 ≤ a0.toInt ∧ a0.toInt ≤ 15) ∧ (0 ≤ b0.toInt ∧ b0.toInt ≤ 15) ∧ (0 ≤ c0.toInt ∧ c0.toInt ≤ 15) ∧ (0 ≤ d0.toInt ∧ d0.toInt ≤ 15) ∧ pe.toInt < 16))) ∨ (r = pe ∧ (u.toInt = pe.toInt + 1) ∧ ((0 ≤ a0.toInt ∧ a0.toInt ≤ 15) ∧ (0 ≤ b0.toInt ∧ b0.toInt ≤ 15) ∧ (0 ≤ c0.toInt ∧ c0.toInt ≤ 15) ∧ (0 ≤ d0.toInt ∧ d0.toInt ≤ 15) ∧ pe.toInt < 16))) ∧ Inv8 g idn u ct2) ct [.ref 0, .int a0, .int b0, .int c0, .int d0] := by
  refine DM.K (fun K hK => ?_)
  refine GW.met (own := RX8) (loc := [(0, .ref 0), (1, .int a0), (2, .int b0), (3, .int c0), (4, .int d0)]) (by decide) rfl rfl (Nat.le_of_ble_eq_true rfl) ?_
  have hpe0 := hI.1
  have rg_a0 := z_rng a0
  have rg_b0 := z_rng b0
  have rg_c0 := z_rng c0
  have rg_d0 := z_rng d0
  refine dv_iload_n dX8_person_0 rfl 1 rfl ?_
  refine GW.callS (n := 1) (As := [.int a0]) (rest := []) (k_X8_isValue l g pe ct a0 hI) (fun _ h => Bool.noConfusion h) rfl rfl mm_564 mm_565 mm_52 mm_566 (by decide +kernel) ⟨Nat.le_of_ble_eq_true rfl, Nat.le_of_ble_eq_true rfl⟩ rfl (Nat.le_of_ble_eq_true rfl) dX8_person_1 (Nat.zero_le _) (Nat.zero_le _) rfl (fun ct1 rrr2 hBr2 hoff3 => ?_)
  obtain ⟨r2, rfl, hr2, rfl⟩ := hBr2
  refine GW.eq (S2 := [.int r2]) rfl rfl rfl ?_
  rcases hr2 with hr2 | hr2
  · skip
    obtain ⟨rfl, h4, h5⟩ := hr2
    have h4 : 0 ≤ a0.toInt := h4
    have h5 : a0.toInt ≤ 15 := h5
    refine dv_if_eq (tgt := 38) dX8_person_4 (by decide) (fun c6 => ?_) (fun c6 => ?_)
    · skip
      exact absurd c6 (by decide)
    · skip
      refine dv_iload_n dX8_person_7 rfl 2 rfl ?_
      refine GW.callS (n := 1) (As := [.int b0]) (rest := []) (k_X8_isValue l g pe ct b0 hI) (fun _ h => Bool.noConfusion h) rfl rfl mm_564 mm_565 mm_52 mm_566 (by decide +kernel) ⟨Nat.le_of_ble_eq_true rfl, Nat.le_of_ble_eq_true rfl⟩ rfl (Nat.le_of_ble_eq_true rfl) dX8_person_8 (Nat.zero_le _) (Nat.zero_le _) rfl (fun ct7 rrr8 hBr8 hoff9 => ?_)
      obtain ⟨r8, rfl, hr8, rfl⟩ := hBr8
      refine GW.eq (S2 := [.int r8]) rfl rfl rfl ?_
      rcases hr8 with hr8 | hr8
      · skip
        obtain ⟨rfl, h10, h11⟩ := hr8
        have h10 : 0 ≤ b0.toInt := h10
        have h11 : b0.toInt ≤ 15 := h11
        refine dv_if_eq (tgt := 38) dX8_person_11 (by decide) (fun c12 => ?_) (fun c12 => ?_)
        · skip
          exact absurd c12 (by decide)
        · skip
          refine dv_iload_n dX8_person_14 rfl 3 rfl ?_
          refine GW.callS (n := 1) (As := [.int c0]) (rest := []) (k_X8_isValue l g pe ct c0 hI) (fun _ h => Bool.noConfusion h) rfl rfl mm_564 mm_565 mm_52 mm_566 (by decide +kernel) ⟨Nat.le_of_ble_eq_true rfl, Nat.le_of_ble_eq_true rfl⟩ rfl (Nat.le_of_ble_eq_true rfl) dX8_person_15 (Nat.zero_le _) (Nat.zero_le _) rfl (fun ct13 rrr14 hBr14 hoff15 => ?_)
          obtain ⟨r14, rfl, hr14, rfl⟩ := hBr14
          refine GW.eq (S2 := [.int r14]) rfl rfl rfl ?_
          rcases hr14 with hr14 | hr14
          · skip
            obtain ⟨rfl, h16, h17⟩ := hr14
            have h16 : 0 ≤ c0.toInt := h16
            have h17 : c0.toInt ≤ 15 := h17
            refine dv_if_eq (tgt := 38) dX8_person_18 (by decide) (fun c18 => ?_) (fun c18 => ?_)
            · skip
              exact absurd c18 (by decide)
            · skip
              refine dv_iload dX8_person_21 4 rfl ?_
              refine GW.callS (n := 1) (As := [.int d0]) (rest := []) (k_X8_isValue l g pe ct d0 hI) (fun _ h => Bool.noConfusion h) rfl rfl mm_564 mm_565 mm_52 mm_566 (by decide +kernel) ⟨Nat.le_of_ble_eq_true rfl, Nat.le_of_ble_eq_true rfl⟩ rfl (Nat.le_of_ble_eq_true rfl) dX8_person_23 (Nat.zero_le _) (Nat.zero_le _) rfl (fun ct19 rrr20 hBr20 hoff21 => ?_)
              obtain ⟨r20, rfl, hr20, rfl⟩ := hBr20
              refine GW.eq (S2 := [.int r20]) rfl rfl rfl ?_
              rcases hr20 with hr20 | hr20
              · skip
                obtain ⟨rfl, h22, h23⟩ := hr20
                have h22 : 0 ≤ d0.toInt := h22
                have h23 : d0.toInt ≤ 15 := h23
                refine dv_if_eq (tgt := 38) dX8_person_26 (by decide) (fun c24 => ?_) (fun c24 => ?_)
                · skip
                  exact absurd c24 (by decide)
                · skip
                  refine dv_aload_n dX8_person_29 rfl 0 rfl ?_
                  obtain ⟨bk27, dr26, h28, h29, h30, hs25⟩ := a8_0 hI
                  refine dv_get (ci := 8) (v := .int pe) (C := RX8) (T := TX8) (N := 13) ⟨by decide, rfl⟩ hs25 rfl inG8 11 (by decide) mm_314 rfl dX8_person_30 ?_
                  refine dv_bipush (v := 16) dX8_person_33 (by decide) ?_
                  refine dv_icmp_lt (tgt := 40) dX8_person_35 (by decide) (fun c31 => ?_) (fun c31 => ?_)
                  · skip
                    have c31 : pe.toInt < 16 := (z_lt rfl (by decide : (16 : Int32).toInt = 16)).mp c31
                    refine dv_aload_n dX8_person_40 rfl 0 rfl ?_
                    refine dv_get (ci := 8) (v := .int pe) (C := RX8) (T := TX8) (N := 13) ⟨by decide, rfl⟩ hs25 rfl inG8 11 (by decide) mm_314 rfl dX8_person_41 ?_
                    refine dv_istore (lv' := [(5, .int pe), (0, .ref 0), (1, .int a0), (2, .int b0), (3, .int c0), (4, .int d0)]) dX8_person_44 (by decide) rfl ?_
                    refine dv_aload_n dX8_person_46 rfl 1 rfl ?_
                    refine dv_dup dX8_person_47 rfl ?_
                    refine dv_get (ci := 8) (v := .int pe) (C := RX8) (T := TX8) (N := 13) ⟨by decide, rfl⟩ hs25 rfl inG8 11 (by decide) mm_314 rfl dX8_person_48 ?_
                    refine dv_iconst (v := 1) dX8_person_51 (by decide) ?_
                    refine dv_iadd dX8_person_52 ?_
                    refine dv_topi (fun x32 ex32 => ?_)
                    have tx32 : x32.toInt = pe.toInt + 1 := by rw [ex32]; exact z_add rfl (by decide : (1 : Int32).toInt = 1) (by omega) (by omega)
                    refine dv_put (ci := 8) (v := .int x32) (ty := .int) (C := RX8) (T := TX8) (N := 13) ⟨by decide, rfl⟩ hs25 rfl inG8 tyX8 tyX8_ok nmX8 11 (by decide) mm_314 rfl (by decide +kernel) (fun _ => rfl) (fun _ => rfl) (Nat.le_of_ble_eq_true rfl) dX8_person_53 (en := .inr (8, [.ref 1, .ref 2, .ref 3, .ref 5, .ref 6, .ref 9, .ref 10, .ref 17, .ref 21, .ref 34, .ref (99 + 3 * dr26), .int x32, .int bk27])) rfl (fun ct33 ec34 => ?_)
                    have hI : Inv8 g idn x32 ct33 := by rw [ec34]; exact up8_pe hI (by omega) (i8_0 ⟨(bk27 : Int32), dr26, (by omega), (by first | omega | decide), (by first | omega | decide), rfl⟩)
                    have hs35 : ct33 0 = .inr (8, [.ref 1, .ref 2, .ref 3, .ref 5, .ref 6, .ref 9, .ref 10, .ref 17, .ref 21, .ref 34, .ref (99 + 3 * dr26), .int x32, .int bk27]) := by rw [ec34]; exact va_up_self _ _ _
                    refine dv_aload_n dX8_person_56 rfl 1 rfl ?_
                    refine dv_get (ci := 8) (v := .ref 1) (C := RX8) (T := TX8) (N := 13) ⟨by decide, rfl⟩ hs35 rfl inG8 0 (by decide) mm_303 rfl dX8_person_57 ?_
                    refine dv_iconst (v := 0) dX8_person_60 (by decide) ?_
                    have hs36 := a8_1 hI
                    refine dv_aldq 4 ⟨by decide, rfl⟩ hs36 rfl (z_in (by decide : (0 : Int32).toInt = 0) (by omega) (by omega)) dX8_person_61 (r := 35) rfl ?_
                    refine dv_iload dX8_person_62 0 rfl ?_
                    refine dv_iload_n dX8_person_64 rfl 2 rfl ?_
                    obtain ⟨we39, se40, h41, h42, hs38⟩ := a8_35 (kc := 35) (by omega) hI
                    refine GW.callV (n := 2) (As := [.int pe, .int a0]) (rest := []) (b := 35) (k_X3_settle l g x32 ct33 35 pe a0 (by omega) hI) sub_pK_pCl rfl rfl ⟨by decide, rfl⟩ hs38 (q := (RX3, TX3, 6)) rfl mm_567 mm_568 mm_569 mm_59 mm_570 (by decide +kernel) ⟨Nat.le_of_ble_eq_true rfl, Nat.le_of_ble_eq_true rfl⟩ rfl (Nat.le_of_ble_eq_true rfl) dX8_person_65 (Nat.zero_le _) (Nat.zero_le _) rfl (fun ct37 rrr43 hBr43 hoff44 => ?_)
                    obtain ⟨rfl, hI⟩ := hBr43
                    refine GW.eq (S2 := []) rfl rfl rfl ?_
                    have hs45 : ct37 0 = .inr (8, [.ref 1, .ref 2, .ref 3, .ref 5, .ref 6, .ref 9, .ref 10, .ref 17, .ref 21, .ref 34, .ref (99 + 3 * dr26), .int x32, .int bk27]) := (hoff44 _ (pK_no (by decide))).trans hs35
                    have hs46 : ct37 1 = .inl (g.2 4, 4, .inr (.inr (.inr (.inr (zF1 idn 0))))) := (hoff44 _ (pK_no (by decide))).trans hs36
                    refine dv_aload_n dX8_person_68 rfl 1 rfl ?_
                    refine dv_get (ci := 8) (v := .ref 1) (C := RX8) (T := TX8) (N := 13) ⟨by decide, rfl⟩ hs45 rfl inG8 0 (by decide) mm_303 rfl dX8_person_69 ?_
                    refine dv_iconst (v := 1) dX8_person_72 (by decide) ?_
                    refine dv_aldq 4 ⟨by decide, rfl⟩ hs46 rfl (z_in (by decide : (1 : Int32).toInt = 1) (by omega) (by omega)) dX8_person_73 (r := 40) rfl ?_
                    refine dv_iload dX8_person_74 0 rfl ?_
                    refine dv_iload_n dX8_person_76 rfl 3 rfl ?_
                    obtain ⟨we49, se50, h51, h52, hs48⟩ := a8_35 (kc := 40) (by omega) hI
                    refine GW.callV (n := 2) (As := [.int pe, .int b0]) (rest := []) (b := 40) (k_X3_settle l g x32 ct37 40 pe b0 (by omega) hI) sub_pK_pCl rfl rfl ⟨by decide, rfl⟩ hs48 (q := (RX3, TX3, 6)) rfl mm_567 mm_568 mm_569 mm_59 mm_570 (by decide +kernel) ⟨Nat.le_of_ble_eq_true rfl, Nat.le_of_ble_eq_true rfl⟩ rfl (Nat.le_of_ble_eq_true rfl) dX8_person_77 (Nat.zero_le _) (Nat.zero_le _) rfl (fun ct47 rrr53 hBr53 hoff54 => ?_)
                    obtain ⟨rfl, hI⟩ := hBr53
                    refine GW.eq (S2 := []) rfl rfl rfl ?_
                    have hs55 : ct47 0 = .inr (8, [.ref 1, .ref 2, .ref 3, .ref 5, .ref 6, .ref 9, .ref 10, .ref 17, .ref 21, .ref 34, .ref (99 + 3 * dr26), .int x32, .int bk27]) := (hoff54 _ (pK_no (by decide))).trans hs45
                    have hs56 : ct47 1 = .inl (g.2 4, 4, .inr (.inr (.inr (.inr (zF1 idn 0))))) := (hoff54 _ (pK_no (by decide))).trans hs46
                    refine dv_aload_n dX8_person_80 rfl 1 rfl ?_
                    refine dv_get (ci := 8) (v := .ref 1) (C := RX8) (T := TX8) (N := 13) ⟨by decide, rfl⟩ hs55 rfl inG8 0 (by decide) mm_303 rfl dX8_person_81 ?_
                    refine dv_iconst (v := 2) dX8_person_84 (by decide) ?_
                    refine dv_aldq 4 ⟨by decide, rfl⟩ hs56 rfl (z_in (by decide : (2 : Int32).toInt = 2) (by omega) (by omega)) dX8_person_85 (r := 45) rfl ?_
                    refine dv_iload dX8_person_86 0 rfl ?_
                    refine dv_iload_n dX8_person_88 rfl 4 rfl ?_
                    obtain ⟨we59, se60, h61, h62, hs58⟩ := a8_35 (kc := 45) (by omega) hI
                    refine GW.callV (n := 2) (As := [.int pe, .int c0]) (rest := []) (b := 45) (k_X3_settle l g x32 ct47 45 pe c0 (by omega) hI) sub_pK_pCl rfl rfl ⟨by decide, rfl⟩ hs58 (q := (RX3, TX3, 6)) rfl mm_567 mm_568 mm_569 mm_59 mm_570 (by decide +kernel) ⟨Nat.le_of_ble_eq_true rfl, Nat.le_of_ble_eq_true rfl⟩ rfl (Nat.le_of_ble_eq_true rfl) dX8_person_89 (Nat.zero_le _) (Nat.zero_le _) rfl (fun ct57 rrr63 hBr63 hoff64 => ?_)
                    obtain ⟨rfl, hI⟩ := hBr63
                    refine GW.eq (S2 := []) rfl rfl rfl ?_
                    have hs65 : ct57 0 = .inr (8, [.ref 1, .ref 2, .ref 3, .ref 5, .ref 6, .ref 9, .ref 10, .ref 17, .ref 21, .ref 34, .ref (99 + 3 * dr26), .int x32, .int bk27]) := (hoff64 _ (pK_no (by decide))).trans hs55
                    have hs66 : ct57 1 = .inl (g.2 4, 4, .inr (.inr (.inr (.inr (zF1 idn 0))))) := (hoff64 _ (pK_no (by decide))).trans hs56
                    refine dv_aload_n dX8_person_92 rfl 1 rfl ?_
                    refine dv_get (ci := 8) (v := .ref 1) (C := RX8) (T := TX8) (N := 13) ⟨by decide, rfl⟩ hs65 rfl inG8 0 (by decide) mm_303 rfl dX8_person_93 ?_
                    refine dv_iconst (v := 3) dX8_person_96 (by decide) ?_
                    refine dv_aldq 4 ⟨by decide, rfl⟩ hs66 rfl (z_in (by decide : (3 : Int32).toInt = 3) (by omega) (by omega)) dX8_person_97 (r := 50) rfl ?_
                    refine dv_iload dX8_person_98 0 rfl ?_
                    refine dv_iload dX8_person_100 5 rfl ?_
                    obtain ⟨we69, se70, h71, h72, hs68⟩ := a8_35 (kc := 50) (by omega) hI
                    refine GW.callV (n := 2) (As := [.int pe, .int d0]) (rest := []) (b := 50) (k_X3_settle l g x32 ct57 50 pe d0 (by omega) hI) sub_pK_pCl rfl rfl ⟨by decide, rfl⟩ hs68 (q := (RX3, TX3, 6)) rfl mm_567 mm_568 mm_569 mm_59 mm_570 (by decide +kernel) ⟨Nat.le_of_ble_eq_true rfl, Nat.le_of_ble_eq_true rfl⟩ rfl (Nat.le_of_ble_eq_true rfl) dX8_person_102 (Nat.zero_le _) (Nat.zero_le _) rfl (fun ct67 rrr73 hBr73 hoff74 => ?_)
                    obtain ⟨rfl, hI⟩ := hBr73
                    refine GW.eq (S2 := []) rfl rfl rfl ?_
                    have hs75 : ct67 0 = .inr (8, [.ref 1, .ref 2, .ref 3, .ref 5, .ref 6, .ref 9, .ref 10, .ref 17, .ref 21, .ref 34, .ref (99 + 3 * dr26), .int x32, .int bk27]) := (hoff74 _ (pK_no (by decide))).trans hs65
                    have hs76 : ct67 1 = .inl (g.2 4, 4, .inr (.inr (.inr (.inr (zF1 idn 0))))) := (hoff74 _ (pK_no (by decide))).trans hs66
                    refine dv_aload_n dX8_person_105 rfl 1 rfl ?_
                    refine dv_iload dX8_person_106 0 rfl ?_
                    refine GW.callV (n := 1) (As := [.int pe]) (rest := []) (b := 0) (k_X8_judgeAll l g x32 ct67 pe hI) (fun _ h => h) rfl rfl ⟨by decide, rfl⟩ hs75 (q := (RX8, TX8, 13)) rfl mm_572 mm_574 mm_18 mm_52 mm_575 (by decide +kernel) ⟨Nat.le_of_ble_eq_true rfl, Nat.le_of_ble_eq_true rfl⟩ rfl (Nat.le_of_ble_eq_true rfl) dX8_person_108 (Nat.zero_le _) (Nat.zero_le _) rfl (fun ct77 rrr78 hBr78 hoff79 => ?_)
                    obtain ⟨rfl, hI⟩ := hBr78
                    refine GW.eq (S2 := []) rfl rfl rfl ?_
                    refine dv_iload dX8_person_111 0 rfl ?_
                    exact dv_iret dX8_person_113 rfl (by first | exact Nat.zero_le _ | decide) (by first | exact Nat.zero_le _ | decide) (by subst hK; exact ⟨pe, x32, rfl, (by first | exact Or.inl ⟨rfl, rfl, by omega⟩ | exact Or.inr ⟨rfl, by omega, by omega⟩), hI⟩)
                  · skip
                    have c31 : ¬ (pe.toInt < 16) := fun q => c31 ((z_lt rfl (by decide : (16 : Int32).toInt = 16)).mpr q)
                    refine dv_iconst (v := (-1)) dX8_person_38 (by decide) ?_
                    have q80 : ((-1) : Int32).toInt = -1 := by decide
                    exact dv_iret dX8_person_39 rfl (by first | exact Nat.zero_le _ | decide) (by first | exact Nat.zero_le _ | decide) (by subst hK; exact ⟨(-1), pe, rfl, (by first | exact Or.inl ⟨rfl, rfl, by omega⟩ | exact Or.inr ⟨rfl, by omega, by omega⟩), hI⟩)
              · skip
                obtain ⟨rfl, h81⟩ := hr20
                have h81 : ¬ (0 ≤ d0.toInt ∧ d0.toInt ≤ 15) := h81
                refine dv_if_eq (tgt := 38) dX8_person_26 (by decide) (fun c82 => ?_) (fun c82 => ?_)
                · skip
                  refine dv_iconst (v := (-1)) dX8_person_38 (by decide) ?_
                  have q83 : ((-1) : Int32).toInt = -1 := by decide
                  exact dv_iret dX8_person_39 rfl (by first | exact Nat.zero_le _ | decide) (by first | exact Nat.zero_le _ | decide) (by subst hK; exact ⟨(-1), pe, rfl, (by first | exact Or.inl ⟨rfl, rfl, by omega⟩ | exact Or.inr ⟨rfl, by omega, by omega⟩), hI⟩)
                · skip
                  exact absurd c82 (by decide)
          · skip
            obtain ⟨rfl, h84⟩ := hr14
            have h84 : ¬ (0 ≤ c0.toInt ∧ c0.toInt ≤ 15) := h84
            refine dv_if_eq (tgt := 38) dX8_person_18 (by decide) (fun c85 => ?_) (fun c85 => ?_)
            · skip
              refine dv_iconst (v := (-1)) dX8_person_38 (by decide) ?_
              have q86 : ((-1) : Int32).toInt = -1 := by decide
              exact dv_iret dX8_person_39 rfl (by first | exact Nat.zero_le _ | decide) (by first | exact Nat.zero_le _ | decide) (by subst hK; exact ⟨(-1), pe, rfl, (by first | exact Or.inl ⟨rfl, rfl, by omega⟩ | exact Or.inr ⟨rfl, by omega, by omega⟩), hI⟩)
            · skip
              exact absurd c85 (by decide)
      · skip
        obtain ⟨rfl, h87⟩ := hr8
        have h87 : ¬ (0 ≤ b0.toInt ∧ b0.toInt ≤ 15) := h87
        refine dv_if_eq (tgt := 38) dX8_person_11 (by decide) (fun c88 => ?_) (fun c88 => ?_)
        · skip
          refine dv_iconst (v := (-1)) dX8_person_38 (by decide) ?_
          have q89 : ((-1) : Int32).toInt = -1 := by decide
          exact dv_iret dX8_person_39 rfl (by first | exact Nat.zero_le _ | decide) (by first | exact Nat.zero_le _ | decide) (by subst hK; exact ⟨(-1), pe, rfl, (by first | exact Or.inl ⟨rfl, rfl, by omega⟩ | exact Or.inr ⟨rfl, by omega, by omega⟩), hI⟩)
        · skip
          exact absurd c88 (by decide)
  · skip
    obtain ⟨rfl, h90⟩ := hr2
    have h90 : ¬ (0 ≤ a0.toInt ∧ a0.toInt ≤ 15) := h90
    refine dv_if_eq (tgt := 38) dX8_person_4 (by decide) (fun c91 => ?_) (fun c91 => ?_)
    · skip
      refine dv_iconst (v := (-1)) dX8_person_38 (by decide) ?_
      have q92 : ((-1) : Int32).toInt = -1 := by decide
      exact dv_iret dX8_person_39 rfl (by first | exact Nat.zero_le _ | decide) (by first | exact Nat.zero_le _ | decide) (by subst hK; exact ⟨(-1), pe, rfl, (by first | exact Or.inl ⟨rfl, rfl, by omega⟩ | exact Or.inr ⟨rfl, by omega, by omega⟩), hI⟩)
    · skip
      exact absurd c91 (by decide)
