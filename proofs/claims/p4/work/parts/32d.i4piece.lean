set_option maxHeartbeats 4000000 in
set_option maxRecDepth 100000 in
theorem k_X4_piece_4 (l : Launch) (g : zG) (sz : Nat) (ad : Nat → Nat) (pe : Int32) (ct : Nat → va_E) (kg : Nat) (ask : Int32) (hf_kg : 99 ≤ kg ∧ kg < 126 ∧ (kg - 99) % 3 = 0) (hI : Inv8 g ad pe ct) : Met l yX4_piece (zW yX4_piece cX4_piece 6 (some .boolean)) ({ frames := 11, cells := 0, slots := 0, locals := 271 }) (va_Pc [.ref (ad kg), .int 4, .int ask] (zA g (zw 126 ad ct) sz)) (va_Qi (fun (r : Int32) (_ : Unit) => (r = 1) ∨ (r = 0)) (fun _ t => ∃ ct2 : Nat → va_E, zP g (zw 126 ad ct2) t.heap ∧ va_D (va_A (zw 126 ad ct) sz) (zw 126 ad ct2) ∧ Inv8 g ad pe ct2) (va_A (zw 126 ad ct) sz)) 0 0 (va_A (zw 126 ad ct) sz) := by
  refine Met.ofW (cc := cX4_piece) (maxL := 6) (ret := (some .boolean)) (by decide) rfl ?_
  intro p e s m args below meth c s₁ B hml hv
  obtain ⟨rfl, hsz, hP, hK, hD0, hN⟩ := hv
  have hx := B.exec
  have hb := B.bytes
  have hr := B.returns
  have hg := zW.law (atoms_spec (ws := (zW yX4_piece cX4_piece 6 (some .boolean))) B.pre)
  have hown : s.vm.findClass RX4 = some m.cls := findClass_of_methodNamed B.named
  have hlocks := B.notSynchronized
  have hpe0 := hI.1
  subst hsz
  have hD := hD0.self (sz := s.heap.size)
  generalize hAe : va_A (zw 126 ad ct) s.heap.size = A at hD ⊢
  have hA : ∀ q : Nat, s.heap.size ≤ q → A q := fun q h => by rw [← hAe]; exact Or.inr h
  have hS : va_S A s.heap s.heap [] := va_S.rf
  have hl := lv_entry ([.ref (ad kg), .int 4, .int ask]) (n := 6) (Nat.le_of_ble_eq_true rfl)
  rw [lg_entry_eq]
  generalize (lg_sl ([.ref (ad kg), .int 4, .int ask]) ++ List.replicate (6 - (lg_sl ([.ref (ad kg), .int 4, .int ask])).length) Slot.unset).toArray = ls at hl ⊢
  have hl : lv_has ls 6 [(0, .ref (ad kg)), (1, .int 4), (2, .int ask)] := hl
  have rg_ask := z_rng ask
  refine lv_aload_n hx hb dX4_piece_0 rfl (lv_at hl 0 rfl) ?_
  obtain ⟨tld2, ofb3, hol4, flt5, fla6, ofl7, len8, atx9, ref10, hz11, h12, h13, h14, h15, hz16, hs1⟩ := a8_44 (kc := kg) (by omega) hI
  have bhz11 := z_b01 hz11
  have bhz16 := z_b01 hz16
  refine zc_i (va_runV (As := []) (rest := []) ⟨hx, hb, hml, hown, hg⟩ (k_X4_nextp l g ad pe ct kg tld2 ofb3 hol4 flt5 fla6 ofl7 len8 atx9 ref10 (by omega) hI hs1) (cwV 0 hg (z_gV mm_475 mm_477 mm_8 mm_114 mm_478) rfl rfl rfl (by decide +kernel) ⟨Nat.le_of_ble_eq_true rfl, Nat.le_of_ble_eq_true rfl⟩) ⟨(zR.pre [.ref (ad kg)] hP hK hN).1, va_recv hK hP (ci := 4) (q0 := kg) rfl (zw_at (by omega) hs1), (zR.pre [.ref (ad kg)] hP hK hN).2⟩ rfl rfl hl.1 rfl (lv_room (Nat.le_of_ble_eq_true rfl)) dX4_piece_1 ⟨Nat.le_of_ble_eq_true rfl, Nat.le_of_ble_eq_true rfl⟩) (fun r17 hr17 => ?_)
  have h18 := hr17
  have h18 : nxp r17 atx9 := h18
  refine lv_bipush (v := 33) hx hb dX4_piece_4 (by decide) ?_
  refine lv_icmp_ne (tgt := 34) hx hb dX4_piece_6 (by decide) (fun c19 => ?_) (fun c19 => ?_)
  · skip
    have c19 : ¬ (r17.toInt = 33) := fun q => c19 ((z_eq rfl (by decide : (33 : Int32).toInt = 33)).mpr q)
    refine lv_aload_n hx hb dX4_piece_34 rfl (lv_at hl 0 rfl) ?_
    refine zc_i (va_runV (As := []) (rest := []) ⟨hx, hb, hml, hown, hg⟩ (k_X4_nextp l g ad pe ct kg tld2 ofb3 hol4 flt5 fla6 ofl7 len8 atx9 ref10 (by omega) hI hs1) (cwV 0 hg (z_gV mm_475 mm_477 mm_8 mm_114 mm_478) rfl rfl rfl (by decide +kernel) ⟨Nat.le_of_ble_eq_true rfl, Nat.le_of_ble_eq_true rfl⟩) ⟨(zR.pre [.ref (ad kg)] hP hK hN).1, va_recv hK hP (ci := 4) (q0 := kg) rfl (zw_at (by omega) hs1), (zR.pre [.ref (ad kg)] hP hK hN).2⟩ rfl rfl hl.1 rfl (lv_room (Nat.le_of_ble_eq_true rfl)) dX4_piece_35 ⟨Nat.le_of_ble_eq_true rfl, Nat.le_of_ble_eq_true rfl⟩) (fun r20 hr20 => ?_)
    have h21 := hr20
    have h21 : nxp r20 atx9 := h21
    refine lv_bipush (v := 40) hx hb dX4_piece_38 (by decide) ?_
    refine lv_icmp_ne (tgt := 76) hx hb dX4_piece_40 (by decide) (fun c22 => ?_) (fun c22 => ?_)
    · skip
      have c22 : ¬ (r20.toInt = 40) := fun q => c22 ((z_eq rfl (by decide : (40 : Int32).toInt = 40)).mpr q)
      refine lv_aload_n hx hb dX4_piece_76 rfl (lv_at hl 0 rfl) ?_
      refine lv_iload_n hx hb dX4_piece_77 rfl (lv_at hl 1 rfl) ?_
      refine lv_iload_n hx hb dX4_piece_78 rfl (lv_at hl 2 rfl) ?_
      have hFc := zw_free hD hS hA
      refine va_calli (va_runV (As := [.int 4, .int ask]) (rest := []) ⟨hx, hb, hml, hown, hg⟩ (k_X4_sum_4 l g _ ad pe ct kg ask (by omega) hI) (cwV 2 hg (z_gV mm_491 mm_493 mm_12 mm_114 mm_494) rfl rfl rfl (by decide +kernel) ⟨Nat.le_of_ble_eq_true rfl, Nat.le_of_ble_eq_true rfl⟩) ⟨(zA.pre [.ref (ad kg), .int 4, .int ask] hP hK hD hN).1, va_recv hK hP (ci := 4) (q0 := kg) rfl (zw_at (by omega) hs1), (zA.pre [.ref (ad kg), .int 4, .int ask] hP hK hD hN).2⟩ rfl rfl hl.1 rfl (lv_room (Nat.le_of_ble_eq_true rfl)) dX4_piece_79 ⟨Nat.le_of_ble_eq_true rfl, Nat.le_of_ble_eq_true rfl⟩) hS (fun q _ h => hFc q h) hFc (fun r23 _ t H1 locs ht hvm hr23 hB hz1 hk1 hS => ?_)
      obtain ⟨ct24, hP1, hD1, hI⟩ := hB
      rw [ht] at hP1
      have hD := hD1.weaken (fun _ _ _ h => hFc _ h)
      generalize H1 = H at hP1 hS ⊢
      have hP := hP1
      refine W.widen (k := 0) (n := 0) (Nat.le_refl _) (Nat.le_refl _) ?_
      refine lv_istore_n (lv' := [(3, .int r23), (0, .ref (ad kg)), (1, .int 4), (2, .int ask)]) hx hb dX4_piece_82 rfl hl (by decide) rfl (fun ls hl => ?_)
      refine lv_aload_n hx hb dX4_piece_83 rfl (lv_at hl 1 rfl) ?_
      obtain ⟨tld26, ofb27, hol28, flt29, fla30, ofl31, len32, atx33, ref34, hz35, h36, h37, h38, h39, hz40, hs25⟩ := a8_44 (kc := kg) (by omega) hI
      have bhz35 := z_b01 hz35
      have bhz40 := z_b01 hz40
      refine zc_i (va_runV (As := []) (rest := []) ⟨hx, hb, hml, hown, hg⟩ (k_X4_nextp l g ad pe ct24 kg tld26 ofb27 hol28 flt29 fla30 ofl31 len32 atx33 ref34 (by omega) hI hs25) (cwV 0 hg (z_gV mm_475 mm_477 mm_8 mm_114 mm_478) rfl rfl rfl (by decide +kernel) ⟨Nat.le_of_ble_eq_true rfl, Nat.le_of_ble_eq_true rfl⟩) ⟨(zR.pre [.ref (ad kg)] hP hK hN).1, va_recv hK hP (ci := 4) (q0 := kg) rfl (zw_at (by omega) hs25), (zR.pre [.ref (ad kg)] hP hK hN).2⟩ rfl rfl hl.1 rfl (lv_room (Nat.le_of_ble_eq_true rfl)) dX4_piece_84 ⟨Nat.le_of_ble_eq_true rfl, Nat.le_of_ble_eq_true rfl⟩) (fun r41 hr41 => ?_)
      have h42 := hr41
      have h42 : nxp r41 atx33 := h42
      refine lv_istore (lv' := [(4, .int r41), (3, .int r23), (0, .ref (ad kg)), (1, .int 4), (2, .int ask)]) hx hb dX4_piece_87 hl (by decide) rfl (fun ls hl => ?_)
      refine lv_iload hx hb dX4_piece_89 (lv_at hl 0 rfl) ?_
      refine lv_bipush (v := 60) hx hb dX4_piece_91 (by decide) ?_
      refine lv_icmp_eq (tgt := 117) hx hb dX4_piece_93 (by decide) (fun c43 => ?_) (fun c43 => ?_)
      · skip
        have c43 : r41.toInt = 60 := (z_eq rfl (by decide : (60 : Int32).toInt = 60)).mp c43
        refine lv_aload_n hx hb dX4_piece_117 rfl (lv_at hl 2 rfl) ?_
        refine lv_dup hx hb dX4_piece_118 rfl ?_
        refine va_get (D := g.1) (ci := 4) (v := .int atx33) (C := RX4) (T := TX4) (N := 11) hx hb hg inG4 hown hK hP kg (zw_at (by omega) hs25) rfl 9 (by decide) (hg _ mm_285) (fun _ h9 => h9) rfl dX4_piece_119 ?_
        refine lv_iconst (v := 1) hx hb dX4_piece_122 (by decide) ?_
        refine lv_iadd hx hb dX4_piece_123 ?_
        refine lv_topi (fun x44 ex44 => ?_)
        have tx44 : x44.toInt = atx33.toInt + 1 := by rw [ex44]; exact z_add rfl (by decide : (1 : Int32).toInt = 1) (by omega) (by omega)
        have hat44 : atx33.toInt ≤ 99 := by first | exact nxp_use h42 (by omega)
        refine va_put (D := g.1) (ci := 4) (v := .int x44) (ty := .int) (C := RX4) (T := TX4) (N := 11) hx hb hg inG4 tyX4 tyX4_ok nmX4 hown hK hP hD hS kg (zw_at (by omega) hs25) rfl 9 (by decide) (hg _ mm_285) (fun _ h9 => h9) rfl (by decide +kernel) rfl rfl (Nat.le_of_ble_eq_true rfl) dX4_piece_124 (fun H locs hP hD hS => ?_)
        have hP : zP g ((zw 126 ad ct24).set kg (ad kg, .inr (4, [.int tld26, .int ofb27, .int hol28, .int flt29, .int fla30, .int ofl31, .ref (ad (kg + 1)), .ref (ad (kg + 2)), .int len32, .int x44, .int ref34]))) H := hP
        have hD : va_D A ((zw 126 ad ct24).set kg (ad kg, .inr (4, [.int tld26, .int ofb27, .int hol28, .int flt29, .int fla30, .int ofl31, .ref (ad (kg + 1)), .ref (ad (kg + 2)), .int len32, .int x44, .int ref34]))) := hD
        rw [zw_set (by omega)] at hP hD
        obtain ⟨ct45, ec46⟩ : ∃ z : Nat → va_E, z = va_up ct24 kg (.inr (4, [.int tld26, .int ofb27, .int hol28, .int flt29, .int fla30, .int ofl31, .ref (ad (kg + 1)), .ref (ad (kg + 2)), .int len32, .int x44, .int ref34])) := ⟨_, rfl⟩
        rw [← ec46] at hP hD
        have hI : Inv8 g ad pe ct45 := by rw [ec46]; exact up8 hI (i8_44 (kc := kg) (by omega) ⟨(tld26 : Int32), (ofb27 : Int32), (hol28 : Int32), (flt29 : Int32), (fla30 : Int32), (ofl31 : Int32), (len32 : Int32), (x44 : Int32), (ref34 : Int32), hz35, (by first | omega | decide), (by first | omega | decide), (by first | omega | decide), (by first | omega | decide), hz40, rfl⟩)
        have hs47 : ct45 kg = .inr (4, [.int tld26, .int ofb27, .int hol28, .int flt29, .int fla30, .int ofl31, .ref (ad (kg + 1)), .ref (ad (kg + 2)), .int len32, .int x44, .int ref34]) := by rw [ec46]; exact va_up_self _ _ _
        refine lv_aload_n hx hb dX4_piece_127 rfl (lv_at hl 2 rfl) ?_
        refine lv_iload_n hx hb dX4_piece_128 rfl (lv_at hl 3 rfl) ?_
        refine lv_iload_n hx hb dX4_piece_129 rfl (lv_at hl 4 rfl) ?_
        have hFc := zw_free hD hS hA
        refine va_calli (va_runV (As := [.int 4, .int ask]) (rest := []) ⟨hx, hb, hml, hown, hg⟩ (k_X4_sum_4 l g _ ad pe ct45 kg ask (by omega) hI) (cwV 2 hg (z_gV mm_491 mm_493 mm_12 mm_114 mm_494) rfl rfl rfl (by decide +kernel) ⟨Nat.le_of_ble_eq_true rfl, Nat.le_of_ble_eq_true rfl⟩) ⟨(zA.pre [.ref (ad kg), .int 4, .int ask] hP hK hD hN).1, va_recv hK hP (ci := 4) (q0 := kg) rfl (zw_at (by omega) hs47), (zA.pre [.ref (ad kg), .int 4, .int ask] hP hK hD hN).2⟩ rfl rfl hl.1 rfl (lv_room (Nat.le_of_ble_eq_true rfl)) dX4_piece_130 ⟨Nat.le_of_ble_eq_true rfl, Nat.le_of_ble_eq_true rfl⟩) hS (fun q _ h => hFc q h) hFc (fun r48 _ t H1 locs ht hvm hr48 hB hz1 hk1 hS => ?_)
        obtain ⟨ct49, hP1, hD1, hI⟩ := hB
        rw [ht] at hP1
        have hD := hD1.weaken (fun _ _ _ h => hFc _ h)
        generalize H1 = H at hP1 hS ⊢
        have hP := hP1
        refine W.widen (k := 0) (n := 0) (Nat.le_refl _) (Nat.le_refl _) ?_
        refine lv_istore (lv' := [(5, .int r48), (4, .int r41), (3, .int r23), (0, .ref (ad kg)), (1, .int 4), (2, .int ask)]) hx hb dX4_piece_133 hl (by decide) rfl (fun ls hl => ?_)
        refine lv_iload hx hb dX4_piece_135 (lv_at hl 1 rfl) ?_
        refine lv_bipush (v := 60) hx hb dX4_piece_137 (by decide) ?_
        refine lv_icmp_ne (tgt := 156) hx hb dX4_piece_139 (by decide) (fun c50 => ?_) (fun c50 => ?_)
        · skip
          have c50 : ¬ (r41.toInt = 60) := fun q => c50 ((z_eq rfl (by decide : (60 : Int32).toInt = 60)).mpr q)
          refine lv_iload hx hb dX4_piece_156 (lv_at hl 1 rfl) ?_
          refine lv_bipush (v := 62) hx hb dX4_piece_158 (by decide) ?_
          refine lv_icmp_ne (tgt := 177) hx hb dX4_piece_160 (by decide) (fun c51 => ?_) (fun c51 => ?_)
          · skip
            have c51 : ¬ (r41.toInt = 62) := fun q => c51 ((z_eq rfl (by decide : (62 : Int32).toInt = 62)).mpr q)
            refine lv_iload_n hx hb dX4_piece_177 rfl (lv_at hl 2 rfl) ?_
            refine lv_iload hx hb dX4_piece_178 (lv_at hl 0 rfl) ?_
            refine lv_icmp_ne (tgt := 187) hx hb dX4_piece_180 (by decide) (fun c52 => ?_) (fun c52 => ?_)
            · skip
              have c52 : ¬ (r23.toInt = r48.toInt) := fun q => c52 ((z_eq rfl rfl).mpr q)
              refine lv_iconst (v := 0) hx hb dX4_piece_187 (by decide) ?_
              have q53 : (0 : Int32).toInt = 0 := by decide
              exact W.zret (v := 0) hx hb hr rfl (fun t ht hW => ⟨⟨0, (), rfl, by first | exact Or.inl ⟨rfl, by omega⟩ | exact Or.inr ⟨rfl, by omega⟩ | exact Or.inl rfl | exact Or.inr rfl | exact Or.inl ⟨rfl, by omega, by omega⟩ | exact (z_01 (by omega) (by omega)).symm, ct49, by rw [ht]; exact hP, hD, hI⟩, hS.F ht⟩) hS.2.2 dX4_piece_188
            · skip
              have c52 : r23.toInt = r48.toInt := (z_eq rfl rfl).mp c52
              refine lv_iconst (v := 1) hx hb dX4_piece_183 (by decide) ?_
              refine lv_goto (tgt := 188) hx hb dX4_piece_184 (by decide) ?_
              have q54 : (1 : Int32).toInt = 1 := by decide
              exact W.zret (v := 1) hx hb hr rfl (fun t ht hW => ⟨⟨1, (), rfl, by first | exact Or.inl ⟨rfl, by omega⟩ | exact Or.inr ⟨rfl, by omega⟩ | exact Or.inl rfl | exact Or.inr rfl | exact Or.inl ⟨rfl, by omega, by omega⟩ | exact (z_01 (by omega) (by omega)).symm, ct49, by rw [ht]; exact hP, hD, hI⟩, hS.F ht⟩) hS.2.2 dX4_piece_188
          · skip
            have c51 : r41.toInt = 62 := (z_eq rfl (by decide : (62 : Int32).toInt = 62)).mp c51
            exfalso
            omega
        · skip
          have c50 : r41.toInt = 60 := (z_eq rfl (by decide : (60 : Int32).toInt = 60)).mp c50
          refine lv_iload_n hx hb dX4_piece_142 rfl (lv_at hl 2 rfl) ?_
          refine lv_iload hx hb dX4_piece_143 (lv_at hl 0 rfl) ?_
          refine lv_icmp_ge (tgt := 152) hx hb dX4_piece_145 (by decide) (fun c55 => ?_) (fun c55 => ?_)
          · skip
            have c55 : r48.toInt ≤ r23.toInt := (z_le rfl rfl).mp c55
            refine lv_iconst (v := 0) hx hb dX4_piece_152 (by decide) ?_
            refine lv_goto (tgt := 188) hx hb dX4_piece_153 (by decide) ?_
            have q56 : (0 : Int32).toInt = 0 := by decide
            exact W.zret (v := 0) hx hb hr rfl (fun t ht hW => ⟨⟨0, (), rfl, by first | exact Or.inl ⟨rfl, by omega⟩ | exact Or.inr ⟨rfl, by omega⟩ | exact Or.inl rfl | exact Or.inr rfl | exact Or.inl ⟨rfl, by omega, by omega⟩ | exact (z_01 (by omega) (by omega)).symm, ct49, by rw [ht]; exact hP, hD, hI⟩, hS.F ht⟩) hS.2.2 dX4_piece_188
          · skip
            have c55 : ¬ (r48.toInt ≤ r23.toInt) := fun q => c55 ((z_le rfl rfl).mpr q)
            refine lv_iconst (v := 1) hx hb dX4_piece_148 (by decide) ?_
            refine lv_goto (tgt := 188) hx hb dX4_piece_149 (by decide) ?_
            have q57 : (1 : Int32).toInt = 1 := by decide
            exact W.zret (v := 1) hx hb hr rfl (fun t ht hW => ⟨⟨1, (), rfl, by first | exact Or.inl ⟨rfl, by omega⟩ | exact Or.inr ⟨rfl, by omega⟩ | exact Or.inl rfl | exact Or.inr rfl | exact Or.inl ⟨rfl, by omega, by omega⟩ | exact (z_01 (by omega) (by omega)).symm, ct49, by rw [ht]; exact hP, hD, hI⟩, hS.F ht⟩) hS.2.2 dX4_piece_188
      · skip
        have c43 : ¬ (r41.toInt = 60) := fun q => c43 ((z_eq rfl (by decide : (60 : Int32).toInt = 60)).mpr q)
        refine lv_iload hx hb dX4_piece_96 (lv_at hl 0 rfl) ?_
        refine lv_bipush (v := 62) hx hb dX4_piece_98 (by decide) ?_
        refine lv_icmp_eq (tgt := 117) hx hb dX4_piece_100 (by decide) (fun c58 => ?_) (fun c58 => ?_)
        · skip
          have c58 : r41.toInt = 62 := (z_eq rfl (by decide : (62 : Int32).toInt = 62)).mp c58
          refine lv_aload_n hx hb dX4_piece_117 rfl (lv_at hl 2 rfl) ?_
          refine lv_dup hx hb dX4_piece_118 rfl ?_
          refine va_get (D := g.1) (ci := 4) (v := .int atx33) (C := RX4) (T := TX4) (N := 11) hx hb hg inG4 hown hK hP kg (zw_at (by omega) hs25) rfl 9 (by decide) (hg _ mm_285) (fun _ h9 => h9) rfl dX4_piece_119 ?_
          refine lv_iconst (v := 1) hx hb dX4_piece_122 (by decide) ?_
          refine lv_iadd hx hb dX4_piece_123 ?_
          refine lv_topi (fun x59 ex59 => ?_)
          have tx59 : x59.toInt = atx33.toInt + 1 := by rw [ex59]; exact z_add rfl (by decide : (1 : Int32).toInt = 1) (by omega) (by omega)
          have hat59 : atx33.toInt ≤ 99 := by first | exact nxp_use h42 (by omega)
          refine va_put (D := g.1) (ci := 4) (v := .int x59) (ty := .int) (C := RX4) (T := TX4) (N := 11) hx hb hg inG4 tyX4 tyX4_ok nmX4 hown hK hP hD hS kg (zw_at (by omega) hs25) rfl 9 (by decide) (hg _ mm_285) (fun _ h9 => h9) rfl (by decide +kernel) rfl rfl (Nat.le_of_ble_eq_true rfl) dX4_piece_124 (fun H locs hP hD hS => ?_)
          have hP : zP g ((zw 126 ad ct24).set kg (ad kg, .inr (4, [.int tld26, .int ofb27, .int hol28, .int flt29, .int fla30, .int ofl31, .ref (ad (kg + 1)), .ref (ad (kg + 2)), .int len32, .int x59, .int ref34]))) H := hP
          have hD : va_D A ((zw 126 ad ct24).set kg (ad kg, .inr (4, [.int tld26, .int ofb27, .int hol28, .int flt29, .int fla30, .int ofl31, .ref (ad (kg + 1)), .ref (ad (kg + 2)), .int len32, .int x59, .int ref34]))) := hD
          rw [zw_set (by omega)] at hP hD
          obtain ⟨ct60, ec61⟩ : ∃ z : Nat → va_E, z = va_up ct24 kg (.inr (4, [.int tld26, .int ofb27, .int hol28, .int flt29, .int fla30, .int ofl31, .ref (ad (kg + 1)), .ref (ad (kg + 2)), .int len32, .int x59, .int ref34])) := ⟨_, rfl⟩
          rw [← ec61] at hP hD
          have hI : Inv8 g ad pe ct60 := by rw [ec61]; exact up8 hI (i8_44 (kc := kg) (by omega) ⟨(tld26 : Int32), (ofb27 : Int32), (hol28 : Int32), (flt29 : Int32), (fla30 : Int32), (ofl31 : Int32), (len32 : Int32), (x59 : Int32), (ref34 : Int32), hz35, (by first | omega | decide), (by first | omega | decide), (by first | omega | decide), (by first | omega | decide), hz40, rfl⟩)
          have hs62 : ct60 kg = .inr (4, [.int tld26, .int ofb27, .int hol28, .int flt29, .int fla30, .int ofl31, .ref (ad (kg + 1)), .ref (ad (kg + 2)), .int len32, .int x59, .int ref34]) := by rw [ec61]; exact va_up_self _ _ _
          refine lv_aload_n hx hb dX4_piece_127 rfl (lv_at hl 2 rfl) ?_
          refine lv_iload_n hx hb dX4_piece_128 rfl (lv_at hl 3 rfl) ?_
          refine lv_iload_n hx hb dX4_piece_129 rfl (lv_at hl 4 rfl) ?_
          have hFc := zw_free hD hS hA
          refine va_calli (va_runV (As := [.int 4, .int ask]) (rest := []) ⟨hx, hb, hml, hown, hg⟩ (k_X4_sum_4 l g _ ad pe ct60 kg ask (by omega) hI) (cwV 2 hg (z_gV mm_491 mm_493 mm_12 mm_114 mm_494) rfl rfl rfl (by decide +kernel) ⟨Nat.le_of_ble_eq_true rfl, Nat.le_of_ble_eq_true rfl⟩) ⟨(zA.pre [.ref (ad kg), .int 4, .int ask] hP hK hD hN).1, va_recv hK hP (ci := 4) (q0 := kg) rfl (zw_at (by omega) hs62), (zA.pre [.ref (ad kg), .int 4, .int ask] hP hK hD hN).2⟩ rfl rfl hl.1 rfl (lv_room (Nat.le_of_ble_eq_true rfl)) dX4_piece_130 ⟨Nat.le_of_ble_eq_true rfl, Nat.le_of_ble_eq_true rfl⟩) hS (fun q _ h => hFc q h) hFc (fun r63 _ t H1 locs ht hvm hr63 hB hz1 hk1 hS => ?_)
          obtain ⟨ct64, hP1, hD1, hI⟩ := hB
          rw [ht] at hP1
          have hD := hD1.weaken (fun _ _ _ h => hFc _ h)
          generalize H1 = H at hP1 hS ⊢
          have hP := hP1
          refine W.widen (k := 0) (n := 0) (Nat.le_refl _) (Nat.le_refl _) ?_
          refine lv_istore (lv' := [(5, .int r63), (4, .int r41), (3, .int r23), (0, .ref (ad kg)), (1, .int 4), (2, .int ask)]) hx hb dX4_piece_133 hl (by decide) rfl (fun ls hl => ?_)
          refine lv_iload hx hb dX4_piece_135 (lv_at hl 1 rfl) ?_
          refine lv_bipush (v := 60) hx hb dX4_piece_137 (by decide) ?_
          refine lv_icmp_ne (tgt := 156) hx hb dX4_piece_139 (by decide) (fun c65 => ?_) (fun c65 => ?_)
          · skip
            have c65 : ¬ (r41.toInt = 60) := fun q => c65 ((z_eq rfl (by decide : (60 : Int32).toInt = 60)).mpr q)
            refine lv_iload hx hb dX4_piece_156 (lv_at hl 1 rfl) ?_
            refine lv_bipush (v := 62) hx hb dX4_piece_158 (by decide) ?_
            refine lv_icmp_ne (tgt := 177) hx hb dX4_piece_160 (by decide) (fun c66 => ?_) (fun c66 => ?_)
            · skip
              have c66 : ¬ (r41.toInt = 62) := fun q => c66 ((z_eq rfl (by decide : (62 : Int32).toInt = 62)).mpr q)
              refine lv_iload_n hx hb dX4_piece_177 rfl (lv_at hl 2 rfl) ?_
              refine lv_iload hx hb dX4_piece_178 (lv_at hl 0 rfl) ?_
              refine lv_icmp_ne (tgt := 187) hx hb dX4_piece_180 (by decide) (fun c67 => ?_) (fun c67 => ?_)
              · skip
                have c67 : ¬ (r23.toInt = r63.toInt) := fun q => c67 ((z_eq rfl rfl).mpr q)
                refine lv_iconst (v := 0) hx hb dX4_piece_187 (by decide) ?_
                have q68 : (0 : Int32).toInt = 0 := by decide
                exact W.zret (v := 0) hx hb hr rfl (fun t ht hW => ⟨⟨0, (), rfl, by first | exact Or.inl ⟨rfl, by omega⟩ | exact Or.inr ⟨rfl, by omega⟩ | exact Or.inl rfl | exact Or.inr rfl | exact Or.inl ⟨rfl, by omega, by omega⟩ | exact (z_01 (by omega) (by omega)).symm, ct64, by rw [ht]; exact hP, hD, hI⟩, hS.F ht⟩) hS.2.2 dX4_piece_188
              · skip
                have c67 : r23.toInt = r63.toInt := (z_eq rfl rfl).mp c67
                refine lv_iconst (v := 1) hx hb dX4_piece_183 (by decide) ?_
                refine lv_goto (tgt := 188) hx hb dX4_piece_184 (by decide) ?_
                have q69 : (1 : Int32).toInt = 1 := by decide
                exact W.zret (v := 1) hx hb hr rfl (fun t ht hW => ⟨⟨1, (), rfl, by first | exact Or.inl ⟨rfl, by omega⟩ | exact Or.inr ⟨rfl, by omega⟩ | exact Or.inl rfl | exact Or.inr rfl | exact Or.inl ⟨rfl, by omega, by omega⟩ | exact (z_01 (by omega) (by omega)).symm, ct64, by rw [ht]; exact hP, hD, hI⟩, hS.F ht⟩) hS.2.2 dX4_piece_188
            · skip
              have c66 : r41.toInt = 62 := (z_eq rfl (by decide : (62 : Int32).toInt = 62)).mp c66
              refine lv_iload_n hx hb dX4_piece_163 rfl (lv_at hl 2 rfl) ?_
              refine lv_iload hx hb dX4_piece_164 (lv_at hl 0 rfl) ?_
              refine lv_icmp_le (tgt := 173) hx hb dX4_piece_166 (by decide) (fun c70 => ?_) (fun c70 => ?_)
              · skip
                have c70 : r23.toInt ≤ r63.toInt := (z_le rfl rfl).mp c70
                refine lv_iconst (v := 0) hx hb dX4_piece_173 (by decide) ?_
                refine lv_goto (tgt := 188) hx hb dX4_piece_174 (by decide) ?_
                have q71 : (0 : Int32).toInt = 0 := by decide
                exact W.zret (v := 0) hx hb hr rfl (fun t ht hW => ⟨⟨0, (), rfl, by first | exact Or.inl ⟨rfl, by omega⟩ | exact Or.inr ⟨rfl, by omega⟩ | exact Or.inl rfl | exact Or.inr rfl | exact Or.inl ⟨rfl, by omega, by omega⟩ | exact (z_01 (by omega) (by omega)).symm, ct64, by rw [ht]; exact hP, hD, hI⟩, hS.F ht⟩) hS.2.2 dX4_piece_188
              · skip
                have c70 : ¬ (r23.toInt ≤ r63.toInt) := fun q => c70 ((z_le rfl rfl).mpr q)
                refine lv_iconst (v := 1) hx hb dX4_piece_169 (by decide) ?_
                refine lv_goto (tgt := 188) hx hb dX4_piece_170 (by decide) ?_
                have q72 : (1 : Int32).toInt = 1 := by decide
                exact W.zret (v := 1) hx hb hr rfl (fun t ht hW => ⟨⟨1, (), rfl, by first | exact Or.inl ⟨rfl, by omega⟩ | exact Or.inr ⟨rfl, by omega⟩ | exact Or.inl rfl | exact Or.inr rfl | exact Or.inl ⟨rfl, by omega, by omega⟩ | exact (z_01 (by omega) (by omega)).symm, ct64, by rw [ht]; exact hP, hD, hI⟩, hS.F ht⟩) hS.2.2 dX4_piece_188
          · skip
            have c65 : r41.toInt = 60 := (z_eq rfl (by decide : (60 : Int32).toInt = 60)).mp c65
            exfalso
            omega
        · skip
          have c58 : ¬ (r41.toInt = 62) := fun q => c58 ((z_eq rfl (by decide : (62 : Int32).toInt = 62)).mpr q)
          refine lv_iload hx hb dX4_piece_103 (lv_at hl 0 rfl) ?_
          refine lv_bipush (v := 61) hx hb dX4_piece_105 (by decide) ?_
          refine lv_icmp_eq (tgt := 117) hx hb dX4_piece_107 (by decide) (fun c73 => ?_) (fun c73 => ?_)
          · skip
            have c73 : r41.toInt = 61 := (z_eq rfl (by decide : (61 : Int32).toInt = 61)).mp c73
            refine lv_aload_n hx hb dX4_piece_117 rfl (lv_at hl 2 rfl) ?_
            refine lv_dup hx hb dX4_piece_118 rfl ?_
            refine va_get (D := g.1) (ci := 4) (v := .int atx33) (C := RX4) (T := TX4) (N := 11) hx hb hg inG4 hown hK hP kg (zw_at (by omega) hs25) rfl 9 (by decide) (hg _ mm_285) (fun _ h9 => h9) rfl dX4_piece_119 ?_
            refine lv_iconst (v := 1) hx hb dX4_piece_122 (by decide) ?_
            refine lv_iadd hx hb dX4_piece_123 ?_
            refine lv_topi (fun x74 ex74 => ?_)
            have tx74 : x74.toInt = atx33.toInt + 1 := by rw [ex74]; exact z_add rfl (by decide : (1 : Int32).toInt = 1) (by omega) (by omega)
            have hat74 : atx33.toInt ≤ 99 := by first | exact nxp_use h42 (by omega)
            refine va_put (D := g.1) (ci := 4) (v := .int x74) (ty := .int) (C := RX4) (T := TX4) (N := 11) hx hb hg inG4 tyX4 tyX4_ok nmX4 hown hK hP hD hS kg (zw_at (by omega) hs25) rfl 9 (by decide) (hg _ mm_285) (fun _ h9 => h9) rfl (by decide +kernel) rfl rfl (Nat.le_of_ble_eq_true rfl) dX4_piece_124 (fun H locs hP hD hS => ?_)
            have hP : zP g ((zw 126 ad ct24).set kg (ad kg, .inr (4, [.int tld26, .int ofb27, .int hol28, .int flt29, .int fla30, .int ofl31, .ref (ad (kg + 1)), .ref (ad (kg + 2)), .int len32, .int x74, .int ref34]))) H := hP
            have hD : va_D A ((zw 126 ad ct24).set kg (ad kg, .inr (4, [.int tld26, .int ofb27, .int hol28, .int flt29, .int fla30, .int ofl31, .ref (ad (kg + 1)), .ref (ad (kg + 2)), .int len32, .int x74, .int ref34]))) := hD
            rw [zw_set (by omega)] at hP hD
            obtain ⟨ct75, ec76⟩ : ∃ z : Nat → va_E, z = va_up ct24 kg (.inr (4, [.int tld26, .int ofb27, .int hol28, .int flt29, .int fla30, .int ofl31, .ref (ad (kg + 1)), .ref (ad (kg + 2)), .int len32, .int x74, .int ref34])) := ⟨_, rfl⟩
            rw [← ec76] at hP hD
            have hI : Inv8 g ad pe ct75 := by rw [ec76]; exact up8 hI (i8_44 (kc := kg) (by omega) ⟨(tld26 : Int32), (ofb27 : Int32), (hol28 : Int32), (flt29 : Int32), (fla30 : Int32), (ofl31 : Int32), (len32 : Int32), (x74 : Int32), (ref34 : Int32), hz35, (by first | omega | decide), (by first | omega | decide), (by first | omega | decide), (by first | omega | decide), hz40, rfl⟩)
            have hs77 : ct75 kg = .inr (4, [.int tld26, .int ofb27, .int hol28, .int flt29, .int fla30, .int ofl31, .ref (ad (kg + 1)), .ref (ad (kg + 2)), .int len32, .int x74, .int ref34]) := by rw [ec76]; exact va_up_self _ _ _
            refine lv_aload_n hx hb dX4_piece_127 rfl (lv_at hl 2 rfl) ?_
            refine lv_iload_n hx hb dX4_piece_128 rfl (lv_at hl 3 rfl) ?_
            refine lv_iload_n hx hb dX4_piece_129 rfl (lv_at hl 4 rfl) ?_
            have hFc := zw_free hD hS hA
            refine va_calli (va_runV (As := [.int 4, .int ask]) (rest := []) ⟨hx, hb, hml, hown, hg⟩ (k_X4_sum_4 l g _ ad pe ct75 kg ask (by omega) hI) (cwV 2 hg (z_gV mm_491 mm_493 mm_12 mm_114 mm_494) rfl rfl rfl (by decide +kernel) ⟨Nat.le_of_ble_eq_true rfl, Nat.le_of_ble_eq_true rfl⟩) ⟨(zA.pre [.ref (ad kg), .int 4, .int ask] hP hK hD hN).1, va_recv hK hP (ci := 4) (q0 := kg) rfl (zw_at (by omega) hs77), (zA.pre [.ref (ad kg), .int 4, .int ask] hP hK hD hN).2⟩ rfl rfl hl.1 rfl (lv_room (Nat.le_of_ble_eq_true rfl)) dX4_piece_130 ⟨Nat.le_of_ble_eq_true rfl, Nat.le_of_ble_eq_true rfl⟩) hS (fun q _ h => hFc q h) hFc (fun r78 _ t H1 locs ht hvm hr78 hB hz1 hk1 hS => ?_)
            obtain ⟨ct79, hP1, hD1, hI⟩ := hB
            rw [ht] at hP1
            have hD := hD1.weaken (fun _ _ _ h => hFc _ h)
            generalize H1 = H at hP1 hS ⊢
            have hP := hP1
            refine W.widen (k := 0) (n := 0) (Nat.le_refl _) (Nat.le_refl _) ?_
            refine lv_istore (lv' := [(5, .int r78), (4, .int r41), (3, .int r23), (0, .ref (ad kg)), (1, .int 4), (2, .int ask)]) hx hb dX4_piece_133 hl (by decide) rfl (fun ls hl => ?_)
            refine lv_iload hx hb dX4_piece_135 (lv_at hl 1 rfl) ?_
            refine lv_bipush (v := 60) hx hb dX4_piece_137 (by decide) ?_
            refine lv_icmp_ne (tgt := 156) hx hb dX4_piece_139 (by decide) (fun c80 => ?_) (fun c80 => ?_)
            · skip
              have c80 : ¬ (r41.toInt = 60) := fun q => c80 ((z_eq rfl (by decide : (60 : Int32).toInt = 60)).mpr q)
              refine lv_iload hx hb dX4_piece_156 (lv_at hl 1 rfl) ?_
              refine lv_bipush (v := 62) hx hb dX4_piece_158 (by decide) ?_
              refine lv_icmp_ne (tgt := 177) hx hb dX4_piece_160 (by decide) (fun c81 => ?_) (fun c81 => ?_)
              · skip
                have c81 : ¬ (r41.toInt = 62) := fun q => c81 ((z_eq rfl (by decide : (62 : Int32).toInt = 62)).mpr q)
                refine lv_iload_n hx hb dX4_piece_177 rfl (lv_at hl 2 rfl) ?_
                refine lv_iload hx hb dX4_piece_178 (lv_at hl 0 rfl) ?_
                refine lv_icmp_ne (tgt := 187) hx hb dX4_piece_180 (by decide) (fun c82 => ?_) (fun c82 => ?_)
                · skip
                  have c82 : ¬ (r23.toInt = r78.toInt) := fun q => c82 ((z_eq rfl rfl).mpr q)
                  refine lv_iconst (v := 0) hx hb dX4_piece_187 (by decide) ?_
                  have q83 : (0 : Int32).toInt = 0 := by decide
                  exact W.zret (v := 0) hx hb hr rfl (fun t ht hW => ⟨⟨0, (), rfl, by first | exact Or.inl ⟨rfl, by omega⟩ | exact Or.inr ⟨rfl, by omega⟩ | exact Or.inl rfl | exact Or.inr rfl | exact Or.inl ⟨rfl, by omega, by omega⟩ | exact (z_01 (by omega) (by omega)).symm, ct79, by rw [ht]; exact hP, hD, hI⟩, hS.F ht⟩) hS.2.2 dX4_piece_188
                · skip
                  have c82 : r23.toInt = r78.toInt := (z_eq rfl rfl).mp c82
                  refine lv_iconst (v := 1) hx hb dX4_piece_183 (by decide) ?_
                  refine lv_goto (tgt := 188) hx hb dX4_piece_184 (by decide) ?_
                  have q84 : (1 : Int32).toInt = 1 := by decide
                  exact W.zret (v := 1) hx hb hr rfl (fun t ht hW => ⟨⟨1, (), rfl, by first | exact Or.inl ⟨rfl, by omega⟩ | exact Or.inr ⟨rfl, by omega⟩ | exact Or.inl rfl | exact Or.inr rfl | exact Or.inl ⟨rfl, by omega, by omega⟩ | exact (z_01 (by omega) (by omega)).symm, ct79, by rw [ht]; exact hP, hD, hI⟩, hS.F ht⟩) hS.2.2 dX4_piece_188
              · skip
                have c81 : r41.toInt = 62 := (z_eq rfl (by decide : (62 : Int32).toInt = 62)).mp c81
                exfalso
                omega
            · skip
              have c80 : r41.toInt = 60 := (z_eq rfl (by decide : (60 : Int32).toInt = 60)).mp c80
              exfalso
              omega
          · skip
            have c73 : ¬ (r41.toInt = 61) := fun q => c73 ((z_eq rfl (by decide : (61 : Int32).toInt = 61)).mpr q)
            refine lv_aload_n hx hb dX4_piece_110 rfl (lv_at hl 2 rfl) ?_
            refine lv_iconst (v := 1) hx hb dX4_piece_111 (by decide) ?_
            have hFc := zw_free hD hS hA
            refine va_callv (va_runV (As := [.int 1]) (rest := []) ⟨hx, hb, hml, hown, hg⟩ (k_X4_fail l g _ ad pe ct24 kg (1 : Int32) (by omega) hI) (cwV 1 hg (z_gV mm_483 mm_485 mm_10 mm_114 mm_486) rfl rfl rfl (by decide +kernel) ⟨Nat.le_of_ble_eq_true rfl, Nat.le_of_ble_eq_true rfl⟩) ⟨(zA.pre [.ref (ad kg), .int 1] hP hK hD hN).1, va_recv hK hP (ci := 4) (q0 := kg) rfl (zw_at (by omega) hs25), (zA.pre [.ref (ad kg), .int 1] hP hK hD hN).2⟩ rfl rfl hl.1 rfl (lv_room (Nat.le_of_ble_eq_true rfl)) dX4_piece_112 ⟨Nat.le_of_ble_eq_true rfl, Nat.le_of_ble_eq_true rfl⟩) hS (fun q _ h => hFc q h) hFc (fun _ t H1 locs ht hvm hr85 hB hz1 hk1 hS => ?_)
            obtain ⟨ct86, hP1, hD1, hI⟩ := hB
            rw [ht] at hP1
            have hD := hD1.weaken (fun _ _ _ h => hFc _ h)
            generalize H1 = H at hP1 hS ⊢
            have hP := hP1
            refine W.widen (k := 0) (n := 0) (Nat.le_refl _) (Nat.le_refl _) ?_
            refine lv_iconst (v := 0) hx hb dX4_piece_115 (by decide) ?_
            have q87 : (0 : Int32).toInt = 0 := by decide
            exact W.zret (v := 0) hx hb hr rfl (fun t ht hW => ⟨⟨0, (), rfl, by first | exact Or.inl ⟨rfl, by omega⟩ | exact Or.inr ⟨rfl, by omega⟩ | exact Or.inl rfl | exact Or.inr rfl | exact Or.inl ⟨rfl, by omega, by omega⟩ | exact (z_01 (by omega) (by omega)).symm, ct86, by rw [ht]; exact hP, hD, hI⟩, hS.F ht⟩) hS.2.2 dX4_piece_116
    · skip
      have c22 : r20.toInt = 40 := (z_eq rfl (by decide : (40 : Int32).toInt = 40)).mp c22
      refine lv_aload_n hx hb dX4_piece_43 rfl (lv_at hl 0 rfl) ?_
      refine lv_iload_n hx hb dX4_piece_44 rfl (lv_at hl 1 rfl) ?_
      have hFc := zw_free hD hS hA
      refine va_calli (va_runV (As := [.int 4]) (rest := []) ⟨hx, hb, hml, hown, hg⟩ (k_X4_opens l g _ ad pe ct kg (4 : Int32) tld2 ofb3 hol4 flt5 fla6 ofl7 len8 atx9 ref10 (by omega) hI hs1 (by first | exact nxp_use h18 (by omega) | exact nxp_use h21 (by omega) | omega)) (cwV 1 hg (z_gV mm_479 mm_481 mm_9 mm_114 mm_482) rfl rfl rfl (by decide +kernel) ⟨Nat.le_of_ble_eq_true rfl, Nat.le_of_ble_eq_true rfl⟩) ⟨(zA.pre [.ref (ad kg), .int 4] hP hK hD hN).1, va_recv hK hP (ci := 4) (q0 := kg) rfl (zw_at (by omega) hs1), (zA.pre [.ref (ad kg), .int 4] hP hK hD hN).2⟩ rfl rfl hl.1 rfl (lv_room (Nat.le_of_ble_eq_true rfl)) dX4_piece_45 ⟨Nat.le_of_ble_eq_true rfl, Nat.le_of_ble_eq_true rfl⟩) hS (fun q _ h => hFc q h) hFc (fun r88 _ t H1 locs ht hvm hr88 hB hz1 hk1 hS => ?_)
      obtain ⟨ct89, hP1, hD1, hI⟩ := hB
      rw [ht] at hP1
      have hD := hD1.weaken (fun _ _ _ h => hFc _ h)
      generalize H1 = H at hP1 hS ⊢
      have hP := hP1
      refine W.widen (k := 0) (n := 0) (Nat.le_refl _) (Nat.le_refl _) ?_
      rcases hr88 with hr88 | hr88
      · skip
        obtain ⟨rfl, h90⟩ := hr88
        have h90 : (4 : Int) < 6 := h90
        refine lv_if_eq (tgt := 66) hx hb dX4_piece_48 (by decide) (fun c91 => ?_) (fun c91 => ?_)
        · skip
          exact absurd c91 (by decide)
        · skip
          refine lv_aload_n hx hb dX4_piece_51 rfl (lv_at hl 0 rfl) ?_
          refine lv_iload_n hx hb dX4_piece_52 rfl (lv_at hl 1 rfl) ?_
          refine lv_iconst (v := 1) hx hb dX4_piece_53 (by decide) ?_
          refine lv_iadd hx hb dX4_piece_54 ?_
          refine lv_topi (fun x92 ex92 => ?_)
          obtain rfl : x92 = 5 := ex92.trans (by decide)
          refine lv_iload_n hx hb dX4_piece_55 rfl (lv_at hl 2 rfl) ?_
          obtain ⟨tld94, ofb95, hol96, flt97, fla98, ofl99, len100, atx101, ref102, hz103, h104, h105, h106, h107, hz108, hs93⟩ := a8_44 (kc := kg) (by omega) hI
          have bhz103 := z_b01 hz103
          have bhz108 := z_b01 hz108
          have hFc := zw_free hD hS hA
          refine va_calli (va_runV (As := [.int 5, .int ask]) (rest := []) ⟨hx, hb, hml, hown, hg⟩ (k_X4_anyOf_5 l g _ ad pe ct89 kg ask (by omega) hI) (cwV 2 hg (z_gV mm_463 mm_465 mm_5 mm_114 mm_466) rfl rfl rfl (by decide +kernel) ⟨Nat.le_of_ble_eq_true rfl, Nat.le_of_ble_eq_true rfl⟩) ⟨(zA.pre [.ref (ad kg), .int 5, .int ask] hP hK hD hN).1, va_recv hK hP (ci := 4) (q0 := kg) rfl (zw_at (by omega) hs93), (zA.pre [.ref (ad kg), .int 5, .int ask] hP hK hD hN).2⟩ rfl rfl hl.1 rfl (lv_room (Nat.le_of_ble_eq_true rfl)) dX4_piece_56 ⟨Nat.le_of_ble_eq_true rfl, Nat.le_of_ble_eq_true rfl⟩) hS (fun q _ h => hFc q h) hFc (fun r109 _ t H1 locs ht hvm hr109 hB hz1 hk1 hS => ?_)
          obtain ⟨ct110, hP1, hD1, hI⟩ := hB
          rw [ht] at hP1
          have hD := hD1.weaken (fun _ _ _ h => hFc _ h)
          generalize H1 = H at hP1 hS ⊢
          have hP := hP1
          refine W.widen (k := 0) (n := 0) (Nat.le_refl _) (Nat.le_refl _) ?_
          rcases hr109 with hr109 | hr109
          · skip
            obtain rfl := hr109
            refine lv_if_eq (tgt := 66) hx hb dX4_piece_59 (by decide) (fun c111 => ?_) (fun c111 => ?_)
            · skip
              exact absurd c111 (by decide)
            · skip
              refine lv_iconst (v := 1) hx hb dX4_piece_62 (by decide) ?_
              refine lv_goto (tgt := 67) hx hb dX4_piece_63 (by decide) ?_
              refine lv_istore_n (lv' := [(3, .int 1), (0, .ref (ad kg)), (1, .int 4), (2, .int ask)]) hx hb dX4_piece_67 rfl hl (by decide) rfl (fun ls hl => ?_)
              refine lv_aload_n hx hb dX4_piece_68 rfl (lv_at hl 1 rfl) ?_
              refine lv_bipush (v := 41) hx hb dX4_piece_69 (by decide) ?_
              obtain ⟨tld113, ofb114, hol115, flt116, fla117, ofl118, len119, atx120, ref121, hz122, h123, h124, h125, h126, hz127, hs112⟩ := a8_44 (kc := kg) (by omega) hI
              have bhz122 := z_b01 hz122
              have bhz127 := z_b01 hz127
              have hFc := zw_free hD hS hA
              refine va_callv (va_runV (As := [.int 41]) (rest := []) ⟨hx, hb, hml, hown, hg⟩ (k_X4_expect l g _ ad pe ct110 kg (41 : Int32) (by omega) (by first | omega | decide) hI) (cwV 1 hg (z_gV mm_487 mm_489 mm_11 mm_114 mm_490) rfl rfl rfl (by decide +kernel) ⟨Nat.le_of_ble_eq_true rfl, Nat.le_of_ble_eq_true rfl⟩) ⟨(zA.pre [.ref (ad kg), .int 41] hP hK hD hN).1, va_recv hK hP (ci := 4) (q0 := kg) rfl (zw_at (by omega) hs112), (zA.pre [.ref (ad kg), .int 41] hP hK hD hN).2⟩ rfl rfl hl.1 rfl (lv_room (Nat.le_of_ble_eq_true rfl)) dX4_piece_71 ⟨Nat.le_of_ble_eq_true rfl, Nat.le_of_ble_eq_true rfl⟩) hS (fun q _ h => hFc q h) hFc (fun _ t H1 locs ht hvm hr128 hB hz1 hk1 hS => ?_)
              obtain ⟨ct129, hP1, hD1, hI⟩ := hB
              rw [ht] at hP1
              have hD := hD1.weaken (fun _ _ _ h => hFc _ h)
              generalize H1 = H at hP1 hS ⊢
              have hP := hP1
              refine W.widen (k := 0) (n := 0) (Nat.le_refl _) (Nat.le_refl _) ?_
              refine lv_iload_n hx hb dX4_piece_74 rfl (lv_at hl 0 rfl) ?_
              have q130 : (1 : Int32).toInt = 1 := by decide
              exact W.zret (v := 1) hx hb hr rfl (fun t ht hW => ⟨⟨1, (), rfl, by first | exact Or.inl ⟨rfl, by omega⟩ | exact Or.inr ⟨rfl, by omega⟩ | exact Or.inl rfl | exact Or.inr rfl | exact Or.inl ⟨rfl, by omega, by omega⟩ | exact (z_01 (by omega) (by omega)).symm, ct129, by rw [ht]; exact hP, hD, hI⟩, hS.F ht⟩) hS.2.2 dX4_piece_75
          · skip
            obtain rfl := hr109
            refine lv_if_eq (tgt := 66) hx hb dX4_piece_59 (by decide) (fun c131 => ?_) (fun c131 => ?_)
            · skip
              refine lv_iconst (v := 0) hx hb dX4_piece_66 (by decide) ?_
              refine lv_istore_n (lv' := [(3, .int 0), (0, .ref (ad kg)), (1, .int 4), (2, .int ask)]) hx hb dX4_piece_67 rfl hl (by decide) rfl (fun ls hl => ?_)
              refine lv_aload_n hx hb dX4_piece_68 rfl (lv_at hl 1 rfl) ?_
              refine lv_bipush (v := 41) hx hb dX4_piece_69 (by decide) ?_
              obtain ⟨tld133, ofb134, hol135, flt136, fla137, ofl138, len139, atx140, ref141, hz142, h143, h144, h145, h146, hz147, hs132⟩ := a8_44 (kc := kg) (by omega) hI
              have bhz142 := z_b01 hz142
              have bhz147 := z_b01 hz147
              have hFc := zw_free hD hS hA
              refine va_callv (va_runV (As := [.int 41]) (rest := []) ⟨hx, hb, hml, hown, hg⟩ (k_X4_expect l g _ ad pe ct110 kg (41 : Int32) (by omega) (by first | omega | decide) hI) (cwV 1 hg (z_gV mm_487 mm_489 mm_11 mm_114 mm_490) rfl rfl rfl (by decide +kernel) ⟨Nat.le_of_ble_eq_true rfl, Nat.le_of_ble_eq_true rfl⟩) ⟨(zA.pre [.ref (ad kg), .int 41] hP hK hD hN).1, va_recv hK hP (ci := 4) (q0 := kg) rfl (zw_at (by omega) hs132), (zA.pre [.ref (ad kg), .int 41] hP hK hD hN).2⟩ rfl rfl hl.1 rfl (lv_room (Nat.le_of_ble_eq_true rfl)) dX4_piece_71 ⟨Nat.le_of_ble_eq_true rfl, Nat.le_of_ble_eq_true rfl⟩) hS (fun q _ h => hFc q h) hFc (fun _ t H1 locs ht hvm hr148 hB hz1 hk1 hS => ?_)
              obtain ⟨ct149, hP1, hD1, hI⟩ := hB
              rw [ht] at hP1
              have hD := hD1.weaken (fun _ _ _ h => hFc _ h)
              generalize H1 = H at hP1 hS ⊢
              have hP := hP1
              refine W.widen (k := 0) (n := 0) (Nat.le_refl _) (Nat.le_refl _) ?_
              refine lv_iload_n hx hb dX4_piece_74 rfl (lv_at hl 0 rfl) ?_
              have q150 : (0 : Int32).toInt = 0 := by decide
              exact W.zret (v := 0) hx hb hr rfl (fun t ht hW => ⟨⟨0, (), rfl, by first | exact Or.inl ⟨rfl, by omega⟩ | exact Or.inr ⟨rfl, by omega⟩ | exact Or.inl rfl | exact Or.inr rfl | exact Or.inl ⟨rfl, by omega, by omega⟩ | exact (z_01 (by omega) (by omega)).symm, ct149, by rw [ht]; exact hP, hD, hI⟩, hS.F ht⟩) hS.2.2 dX4_piece_75
            · skip
              exact absurd c131 (by decide)
      · skip
        obtain rfl := hr88
        refine lv_if_eq (tgt := 66) hx hb dX4_piece_48 (by decide) (fun c151 => ?_) (fun c151 => ?_)
        · skip
          refine lv_iconst (v := 0) hx hb dX4_piece_66 (by decide) ?_
          refine lv_istore_n (lv' := [(3, .int 0), (0, .ref (ad kg)), (1, .int 4), (2, .int ask)]) hx hb dX4_piece_67 rfl hl (by decide) rfl (fun ls hl => ?_)
          refine lv_aload_n hx hb dX4_piece_68 rfl (lv_at hl 1 rfl) ?_
          refine lv_bipush (v := 41) hx hb dX4_piece_69 (by decide) ?_
          obtain ⟨tld153, ofb154, hol155, flt156, fla157, ofl158, len159, atx160, ref161, hz162, h163, h164, h165, h166, hz167, hs152⟩ := a8_44 (kc := kg) (by omega) hI
          have bhz162 := z_b01 hz162
          have bhz167 := z_b01 hz167
          have hFc := zw_free hD hS hA
          refine va_callv (va_runV (As := [.int 41]) (rest := []) ⟨hx, hb, hml, hown, hg⟩ (k_X4_expect l g _ ad pe ct89 kg (41 : Int32) (by omega) (by first | omega | decide) hI) (cwV 1 hg (z_gV mm_487 mm_489 mm_11 mm_114 mm_490) rfl rfl rfl (by decide +kernel) ⟨Nat.le_of_ble_eq_true rfl, Nat.le_of_ble_eq_true rfl⟩) ⟨(zA.pre [.ref (ad kg), .int 41] hP hK hD hN).1, va_recv hK hP (ci := 4) (q0 := kg) rfl (zw_at (by omega) hs152), (zA.pre [.ref (ad kg), .int 41] hP hK hD hN).2⟩ rfl rfl hl.1 rfl (lv_room (Nat.le_of_ble_eq_true rfl)) dX4_piece_71 ⟨Nat.le_of_ble_eq_true rfl, Nat.le_of_ble_eq_true rfl⟩) hS (fun q _ h => hFc q h) hFc (fun _ t H1 locs ht hvm hr168 hB hz1 hk1 hS => ?_)
          obtain ⟨ct169, hP1, hD1, hI⟩ := hB
          rw [ht] at hP1
          have hD := hD1.weaken (fun _ _ _ h => hFc _ h)
          generalize H1 = H at hP1 hS ⊢
          have hP := hP1
          refine W.widen (k := 0) (n := 0) (Nat.le_refl _) (Nat.le_refl _) ?_
          refine lv_iload_n hx hb dX4_piece_74 rfl (lv_at hl 0 rfl) ?_
          have q170 : (0 : Int32).toInt = 0 := by decide
          exact W.zret (v := 0) hx hb hr rfl (fun t ht hW => ⟨⟨0, (), rfl, by first | exact Or.inl ⟨rfl, by omega⟩ | exact Or.inr ⟨rfl, by omega⟩ | exact Or.inl rfl | exact Or.inr rfl | exact Or.inl ⟨rfl, by omega, by omega⟩ | exact (z_01 (by omega) (by omega)).symm, ct169, by rw [ht]; exact hP, hD, hI⟩, hS.F ht⟩) hS.2.2 dX4_piece_75
        · skip
          exact absurd c151 (by decide)
  · skip
    have c19 : r17.toInt = 33 := (z_eq rfl (by decide : (33 : Int32).toInt = 33)).mp c19
    refine lv_aload_n hx hb dX4_piece_9 rfl (lv_at hl 0 rfl) ?_
    refine lv_iload_n hx hb dX4_piece_10 rfl (lv_at hl 1 rfl) ?_
    have hFc := zw_free hD hS hA
    refine va_calli (va_runV (As := [.int 4]) (rest := []) ⟨hx, hb, hml, hown, hg⟩ (k_X4_opens l g _ ad pe ct kg (4 : Int32) tld2 ofb3 hol4 flt5 fla6 ofl7 len8 atx9 ref10 (by omega) hI hs1 (by first | exact nxp_use h18 (by omega) | omega)) (cwV 1 hg (z_gV mm_479 mm_481 mm_9 mm_114 mm_482) rfl rfl rfl (by decide +kernel) ⟨Nat.le_of_ble_eq_true rfl, Nat.le_of_ble_eq_true rfl⟩) ⟨(zA.pre [.ref (ad kg), .int 4] hP hK hD hN).1, va_recv hK hP (ci := 4) (q0 := kg) rfl (zw_at (by omega) hs1), (zA.pre [.ref (ad kg), .int 4] hP hK hD hN).2⟩ rfl rfl hl.1 rfl (lv_room (Nat.le_of_ble_eq_true rfl)) dX4_piece_11 ⟨Nat.le_of_ble_eq_true rfl, Nat.le_of_ble_eq_true rfl⟩) hS (fun q _ h => hFc q h) hFc (fun r171 _ t H1 locs ht hvm hr171 hB hz1 hk1 hS => ?_)
    obtain ⟨ct172, hP1, hD1, hI⟩ := hB
    rw [ht] at hP1
    have hD := hD1.weaken (fun _ _ _ h => hFc _ h)
    generalize H1 = H at hP1 hS ⊢
    have hP := hP1
    refine W.widen (k := 0) (n := 0) (Nat.le_refl _) (Nat.le_refl _) ?_
    rcases hr171 with hr171 | hr171
    · skip
      obtain ⟨rfl, h173⟩ := hr171
      have h173 : (4 : Int) < 6 := h173
      refine lv_if_eq (tgt := 32) hx hb dX4_piece_14 (by decide) (fun c174 => ?_) (fun c174 => ?_)
      · skip
        exact absurd c174 (by decide)
      · skip
        refine lv_aload_n hx hb dX4_piece_17 rfl (lv_at hl 0 rfl) ?_
        refine lv_iload_n hx hb dX4_piece_18 rfl (lv_at hl 1 rfl) ?_
        refine lv_iconst (v := 1) hx hb dX4_piece_19 (by decide) ?_
        refine lv_iadd hx hb dX4_piece_20 ?_
        refine lv_topi (fun x175 ex175 => ?_)
        obtain rfl : x175 = 5 := ex175.trans (by decide)
        refine lv_iload_n hx hb dX4_piece_21 rfl (lv_at hl 2 rfl) ?_
        obtain ⟨tld177, ofb178, hol179, flt180, fla181, ofl182, len183, atx184, ref185, hz186, h187, h188, h189, h190, hz191, hs176⟩ := a8_44 (kc := kg) (by omega) hI
        have bhz186 := z_b01 hz186
        have bhz191 := z_b01 hz191
        have hFc := zw_free hD hS hA
        refine va_calli (va_runV (As := [.int 5, .int ask]) (rest := []) ⟨hx, hb, hml, hown, hg⟩ (k_X4_piece_5 l g _ ad pe ct172 kg ask (by omega) hI) (cwV 2 hg (z_gV mm_471 mm_473 mm_7 mm_114 mm_474) rfl rfl rfl (by decide +kernel) ⟨Nat.le_of_ble_eq_true rfl, Nat.le_of_ble_eq_true rfl⟩) ⟨(zA.pre [.ref (ad kg), .int 5, .int ask] hP hK hD hN).1, va_recv hK hP (ci := 4) (q0 := kg) rfl (zw_at (by omega) hs176), (zA.pre [.ref (ad kg), .int 5, .int ask] hP hK hD hN).2⟩ rfl rfl hl.1 rfl (lv_room (Nat.le_of_ble_eq_true rfl)) dX4_piece_22 ⟨Nat.le_of_ble_eq_true rfl, Nat.le_of_ble_eq_true rfl⟩) hS (fun q _ h => hFc q h) hFc (fun r192 _ t H1 locs ht hvm hr192 hB hz1 hk1 hS => ?_)
        obtain ⟨ct193, hP1, hD1, hI⟩ := hB
        rw [ht] at hP1
        have hD := hD1.weaken (fun _ _ _ h => hFc _ h)
        generalize H1 = H at hP1 hS ⊢
        have hP := hP1
        refine W.widen (k := 0) (n := 0) (Nat.le_refl _) (Nat.le_refl _) ?_
        rcases hr192 with hr192 | hr192
        · skip
          obtain rfl := hr192
          refine lv_if_ne (tgt := 32) hx hb dX4_piece_25 (by decide) (fun c194 => ?_) (fun c194 => ?_)
          · skip
            refine lv_iconst (v := 0) hx hb dX4_piece_32 (by decide) ?_
            have q195 : (0 : Int32).toInt = 0 := by decide
            exact W.zret (v := 0) hx hb hr rfl (fun t ht hW => ⟨⟨0, (), rfl, by first | exact Or.inl ⟨rfl, by omega⟩ | exact Or.inr ⟨rfl, by omega⟩ | exact Or.inl rfl | exact Or.inr rfl | exact Or.inl ⟨rfl, by omega, by omega⟩ | exact (z_01 (by omega) (by omega)).symm, ct193, by rw [ht]; exact hP, hD, hI⟩, hS.F ht⟩) hS.2.2 dX4_piece_33
          · skip
            exact absurd c194 (by decide)
        · skip
          obtain rfl := hr192
          refine lv_if_ne (tgt := 32) hx hb dX4_piece_25 (by decide) (fun c196 => ?_) (fun c196 => ?_)
          · skip
            exact absurd c196 (by decide)
          · skip
            refine lv_iconst (v := 1) hx hb dX4_piece_28 (by decide) ?_
            refine lv_goto (tgt := 33) hx hb dX4_piece_29 (by decide) ?_
            have q197 : (1 : Int32).toInt = 1 := by decide
            exact W.zret (v := 1) hx hb hr rfl (fun t ht hW => ⟨⟨1, (), rfl, by first | exact Or.inl ⟨rfl, by omega⟩ | exact Or.inr ⟨rfl, by omega⟩ | exact Or.inl rfl | exact Or.inr rfl | exact Or.inl ⟨rfl, by omega, by omega⟩ | exact (z_01 (by omega) (by omega)).symm, ct193, by rw [ht]; exact hP, hD, hI⟩, hS.F ht⟩) hS.2.2 dX4_piece_33
    · skip
      obtain rfl := hr171
      refine lv_if_eq (tgt := 32) hx hb dX4_piece_14 (by decide) (fun c198 => ?_) (fun c198 => ?_)
      · skip
        refine lv_iconst (v := 0) hx hb dX4_piece_32 (by decide) ?_
        have q199 : (0 : Int32).toInt = 0 := by decide
        exact W.zret (v := 0) hx hb hr rfl (fun t ht hW => ⟨⟨0, (), rfl, by first | exact Or.inl ⟨rfl, by omega⟩ | exact Or.inr ⟨rfl, by omega⟩ | exact Or.inl rfl | exact Or.inr rfl | exact Or.inl ⟨rfl, by omega, by omega⟩ | exact (z_01 (by omega) (by omega)).symm, ct172, by rw [ht]; exact hP, hD, hI⟩, hS.F ht⟩) hS.2.2 dX4_piece_33
      · skip
        exact absurd c198 (by decide)
