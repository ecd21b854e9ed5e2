set_option maxHeartbeats 4000000 in
set_option maxRecDepth 100000 in
theorem k_X4_piece_6 (l : Launch) (g : zG) (pe : Int32) (ct : Nat → va_E) (kg : Nat) (ask : Int32) (hf_kg : 99 ≤ kg ∧ kg < 126 ∧ (kg - 99) % 3 = 0) (hI : Inv8 g idn pe ct) : DM l g pG false yX4_piece cX4_piece 6 (some .boolean) ({ frames := 5, cells := 0, slots := 0, locals := 119 }) (fun (ct2 : Nat → va_E) (rr : Option Value) => ∃ (r : Int32), rr = some (.int r) ∧ ((r = 1) ∨ (r = 0)) ∧ Inv8 g idn pe ct2) ct [.ref kg, .int 6, .int ask] := by
  refine DM.K (fun K hK => ?_)
  refine GW.met (own := RX4) (loc := [(0, .ref kg), (1, .int 6), (2, .int ask)]) (by decide) rfl rfl (Nat.le_of_ble_eq_true rfl) ?_
  have hpe0 := hI.1
  have rg_ask := z_rng ask
  refine dv_aload_n dX4_piece_0 rfl 0 rfl ?_
  obtain ⟨tld2, ofb3, hol4, flt5, fla6, ofl7, len8, atx9, ref10, hz11, h12, h13, h14, h15, hz16, hs1⟩ := a8_44 (kc := kg) (by omega) hI
  have bhz11 := z_b01 hz11
  have bhz16 := z_b01 hz16
  refine GW.callV (n := 0) (As := []) (rest := []) (b := kg) (k_X4_nextp l g pe ct kg tld2 ofb3 hol4 flt5 fla6 ofl7 len8 atx9 ref10 (by omega) hI hs1) (fun _ h => h) rfl rfl ⟨by omega, pG_of (by omega)⟩ hs1 (q := (RX4, TX4, 11)) rfl mm_600 mm_602 mm_24 mm_58 mm_603 (by decide +kernel) ⟨Nat.le_of_ble_eq_true rfl, Nat.le_of_ble_eq_true rfl⟩ rfl (Nat.le_of_ble_eq_true rfl) dX4_piece_1 (Nat.zero_le _) (Nat.zero_le _) rfl (fun ct17 rrr18 hBr18 hoff19 => ?_)
  obtain ⟨r18, rfl, hr18, rfl⟩ := hBr18
  refine GW.eq (S2 := [.int r18]) rfl rfl rfl ?_
  have h20 := hr18
  have h20 : nxp r18 atx9 := h20
  refine dv_bipush (v := 33) dX4_piece_4 (by decide) ?_
  refine dv_icmp_ne (tgt := 34) dX4_piece_6 (by decide) (fun c21 => ?_) (fun c21 => ?_)
  · skip
    have c21 : ¬ (r18.toInt = 33) := fun q => c21 ((z_eq rfl (by decide : (33 : Int32).toInt = 33)).mpr q)
    refine dv_aload_n dX4_piece_34 rfl 0 rfl ?_
    refine GW.callV (n := 0) (As := []) (rest := []) (b := kg) (k_X4_nextp l g pe ct kg tld2 ofb3 hol4 flt5 fla6 ofl7 len8 atx9 ref10 (by omega) hI hs1) (fun _ h => h) rfl rfl ⟨by omega, pG_of (by omega)⟩ hs1 (q := (RX4, TX4, 11)) rfl mm_600 mm_602 mm_24 mm_58 mm_603 (by decide +kernel) ⟨Nat.le_of_ble_eq_true rfl, Nat.le_of_ble_eq_true rfl⟩ rfl (Nat.le_of_ble_eq_true rfl) dX4_piece_35 (Nat.zero_le _) (Nat.zero_le _) rfl (fun ct22 rrr23 hBr23 hoff24 => ?_)
    obtain ⟨r23, rfl, hr23, rfl⟩ := hBr23
    refine GW.eq (S2 := [.int r23]) rfl rfl rfl ?_
    have h25 := hr23
    have h25 : nxp r23 atx9 := h25
    refine dv_bipush (v := 40) dX4_piece_38 (by decide) ?_
    refine dv_icmp_ne (tgt := 76) dX4_piece_40 (by decide) (fun c26 => ?_) (fun c26 => ?_)
    · skip
      have c26 : ¬ (r23.toInt = 40) := fun q => c26 ((z_eq rfl (by decide : (40 : Int32).toInt = 40)).mpr q)
      refine dv_aload_n dX4_piece_76 rfl 0 rfl ?_
      refine dv_iload_n dX4_piece_77 rfl 1 rfl ?_
      refine dv_iload_n dX4_piece_78 rfl 2 rfl ?_
      refine GW.callV (n := 2) (As := [.int 6, .int ask]) (rest := []) (b := kg) (k_X4_sum_6 l g pe ct kg ask (by omega) hI) (fun _ h => h) rfl rfl ⟨by omega, pG_of (by omega)⟩ hs1 (q := (RX4, TX4, 11)) rfl mm_616 mm_618 mm_28 mm_58 mm_619 (by decide +kernel) ⟨Nat.le_of_ble_eq_true rfl, Nat.le_of_ble_eq_true rfl⟩ rfl (Nat.le_of_ble_eq_true rfl) dX4_piece_79 (Nat.zero_le _) (Nat.zero_le _) rfl (fun ct27 rrr28 hBr28 hoff29 => ?_)
      obtain ⟨r28, rfl, hr28, hI⟩ := hBr28
      refine GW.eq (S2 := [.int r28]) rfl rfl rfl ?_
      refine dv_istore_n (lv' := [(3, .int r28), (0, .ref kg), (1, .int 6), (2, .int ask)]) dX4_piece_82 rfl (by decide) rfl ?_
      refine dv_aload_n dX4_piece_83 rfl 1 rfl ?_
      obtain ⟨tld31, ofb32, hol33, flt34, fla35, ofl36, len37, atx38, ref39, hz40, h41, h42, h43, h44, hz45, hs30⟩ := a8_44 (kc := kg) (by omega) hI
      have bhz40 := z_b01 hz40
      have bhz45 := z_b01 hz45
      refine GW.callV (n := 0) (As := []) (rest := []) (b := kg) (k_X4_nextp l g pe ct27 kg tld31 ofb32 hol33 flt34 fla35 ofl36 len37 atx38 ref39 (by omega) hI hs30) (fun _ h => h) rfl rfl ⟨by omega, pG_of (by omega)⟩ hs30 (q := (RX4, TX4, 11)) rfl mm_600 mm_602 mm_24 mm_58 mm_603 (by decide +kernel) ⟨Nat.le_of_ble_eq_true rfl, Nat.le_of_ble_eq_true rfl⟩ rfl (Nat.le_of_ble_eq_true rfl) dX4_piece_84 (Nat.zero_le _) (Nat.zero_le _) rfl (fun ct46 rrr47 hBr47 hoff48 => ?_)
      obtain ⟨r47, rfl, hr47, rfl⟩ := hBr47
      refine GW.eq (S2 := [.int r47]) rfl rfl rfl ?_
      have h49 := hr47
      have h49 : nxp r47 atx38 := h49
      refine dv_istore (lv' := [(4, .int r47), (3, .int r28), (0, .ref kg), (1, .int 6), (2, .int ask)]) dX4_piece_87 (by decide) rfl ?_
      refine dv_iload dX4_piece_89 0 rfl ?_
      refine dv_bipush (v := 60) dX4_piece_91 (by decide) ?_
      refine dv_icmp_eq (tgt := 117) dX4_piece_93 (by decide) (fun c50 => ?_) (fun c50 => ?_)
      · skip
        have c50 : r47.toInt = 60 := (z_eq rfl (by decide : (60 : Int32).toInt = 60)).mp c50
        refine dv_aload_n dX4_piece_117 rfl 2 rfl ?_
        refine dv_dup dX4_piece_118 rfl ?_
        refine dv_get (ci := 4) (v := .int atx38) (C := RX4) (T := TX4) (N := 11) ⟨by omega, pG_of (by omega)⟩ hs30 rfl inG4 9 (by decide) mm_228 rfl dX4_piece_119 ?_
        refine dv_iconst (v := 1) dX4_piece_122 (by decide) ?_
        refine dv_iadd dX4_piece_123 ?_
        refine dv_topi (fun x51 ex51 => ?_)
        have tx51 : x51.toInt = atx38.toInt + 1 := by rw [ex51]; exact z_add rfl (by decide : (1 : Int32).toInt = 1) (by omega) (by omega)
        have hat51 : atx38.toInt ≤ 99 := by first | exact nxp_use h49 (by omega)
        refine dv_put (ci := 4) (v := .int x51) (ty := .int) (C := RX4) (T := TX4) (N := 11) ⟨by omega, pG_of (by omega)⟩ hs30 rfl inG4 tyX4 tyX4_ok nmX4 9 (by decide) mm_228 rfl (by decide +kernel) (fun _ => rfl) (fun _ => rfl) (Nat.le_of_ble_eq_true rfl) dX4_piece_124 (en := .inr (4, [.int tld31, .int ofb32, .int hol33, .int flt34, .int fla35, .int ofl36, .ref (kg + 1), .ref (kg + 2), .int len37, .int x51, .int ref39])) rfl (fun ct52 ec53 => ?_)
        have hI : Inv8 g idn pe ct52 := by rw [ec53]; exact up8 hI (i8_44 (kc := kg) (by omega) ⟨(tld31 : Int32), (ofb32 : Int32), (hol33 : Int32), (flt34 : Int32), (fla35 : Int32), (ofl36 : Int32), (len37 : Int32), (x51 : Int32), (ref39 : Int32), hz40, (by first | omega | decide), (by first | omega | decide), (by first | omega | decide), (by first | omega | decide), hz45, rfl⟩)
        have hs54 : ct52 kg = .inr (4, [.int tld31, .int ofb32, .int hol33, .int flt34, .int fla35, .int ofl36, .ref (kg + 1), .ref (kg + 2), .int len37, .int x51, .int ref39]) := by rw [ec53]; exact va_up_self _ _ _
        refine dv_aload_n dX4_piece_127 rfl 2 rfl ?_
        refine dv_iload_n dX4_piece_128 rfl 3 rfl ?_
        refine dv_iload_n dX4_piece_129 rfl 4 rfl ?_
        refine GW.callV (n := 2) (As := [.int 6, .int ask]) (rest := []) (b := kg) (k_X4_sum_6 l g pe ct52 kg ask (by omega) hI) (fun _ h => h) rfl rfl ⟨by omega, pG_of (by omega)⟩ hs54 (q := (RX4, TX4, 11)) rfl mm_616 mm_618 mm_28 mm_58 mm_619 (by decide +kernel) ⟨Nat.le_of_ble_eq_true rfl, Nat.le_of_ble_eq_true rfl⟩ rfl (Nat.le_of_ble_eq_true rfl) dX4_piece_130 (Nat.zero_le _) (Nat.zero_le _) rfl (fun ct55 rrr56 hBr56 hoff57 => ?_)
        obtain ⟨r56, rfl, hr56, hI⟩ := hBr56
        refine GW.eq (S2 := [.int r56]) rfl rfl rfl ?_
        refine dv_istore (lv' := [(5, .int r56), (4, .int r47), (3, .int r28), (0, .ref kg), (1, .int 6), (2, .int ask)]) dX4_piece_133 (by decide) rfl ?_
        refine dv_iload dX4_piece_135 1 rfl ?_
        refine dv_bipush (v := 60) dX4_piece_137 (by decide) ?_
        refine dv_icmp_ne (tgt := 156) dX4_piece_139 (by decide) (fun c58 => ?_) (fun c58 => ?_)
        · skip
          have c58 : ¬ (r47.toInt = 60) := fun q => c58 ((z_eq rfl (by decide : (60 : Int32).toInt = 60)).mpr q)
          refine dv_iload dX4_piece_156 1 rfl ?_
          refine dv_bipush (v := 62) dX4_piece_158 (by decide) ?_
          refine dv_icmp_ne (tgt := 177) dX4_piece_160 (by decide) (fun c59 => ?_) (fun c59 => ?_)
          · skip
            have c59 : ¬ (r47.toInt = 62) := fun q => c59 ((z_eq rfl (by decide : (62 : Int32).toInt = 62)).mpr q)
            refine dv_iload_n dX4_piece_177 rfl 2 rfl ?_
            refine dv_iload dX4_piece_178 0 rfl ?_
            refine dv_icmp_ne (tgt := 187) dX4_piece_180 (by decide) (fun c60 => ?_) (fun c60 => ?_)
            · skip
              have c60 : ¬ (r28.toInt = r56.toInt) := fun q => c60 ((z_eq rfl rfl).mpr q)
              refine dv_iconst (v := 0) dX4_piece_187 (by decide) ?_
              have q61 : (0 : Int32).toInt = 0 := by decide
              exact dv_zret dX4_piece_188 rfl rfl (by first | exact Nat.zero_le _ | decide) (by first | exact Nat.zero_le _ | decide) (by subst hK; exact ⟨0, rfl, (by first | exact Or.inl ⟨rfl, by omega⟩ | exact Or.inr ⟨rfl, by omega⟩ | exact Or.inl rfl | exact Or.inr rfl | exact Or.inl ⟨rfl, by omega, by omega⟩ | exact (z_01 (by omega) (by omega)).symm), hI⟩)
            · skip
              have c60 : r28.toInt = r56.toInt := (z_eq rfl rfl).mp c60
              refine dv_iconst (v := 1) dX4_piece_183 (by decide) ?_
              refine dv_goto (tgt := 188) dX4_piece_184 (by decide) ?_
              have q62 : (1 : Int32).toInt = 1 := by decide
              exact dv_zret dX4_piece_188 rfl rfl (by first | exact Nat.zero_le _ | decide) (by first | exact Nat.zero_le _ | decide) (by subst hK; exact ⟨1, rfl, (by first | exact Or.inl ⟨rfl, by omega⟩ | exact Or.inr ⟨rfl, by omega⟩ | exact Or.inl rfl | exact Or.inr rfl | exact Or.inl ⟨rfl, by omega, by omega⟩ | exact (z_01 (by omega) (by omega)).symm), hI⟩)
          · skip
            have c59 : r47.toInt = 62 := (z_eq rfl (by decide : (62 : Int32).toInt = 62)).mp c59
            exfalso
            omega
        · skip
          have c58 : r47.toInt = 60 := (z_eq rfl (by decide : (60 : Int32).toInt = 60)).mp c58
          refine dv_iload_n dX4_piece_142 rfl 2 rfl ?_
          refine dv_iload dX4_piece_143 0 rfl ?_
          refine dv_icmp_ge (tgt := 152) dX4_piece_145 (by decide) (fun c63 => ?_) (fun c63 => ?_)
          · skip
            have c63 : r56.toInt ≤ r28.toInt := (z_le rfl rfl).mp c63
            refine dv_iconst (v := 0) dX4_piece_152 (by decide) ?_
            refine dv_goto (tgt := 188) dX4_piece_153 (by decide) ?_
            have q64 : (0 : Int32).toInt = 0 := by decide
            exact dv_zret dX4_piece_188 rfl rfl (by first | exact Nat.zero_le _ | decide) (by first | exact Nat.zero_le _ | decide) (by subst hK; exact ⟨0, rfl, (by first | exact Or.inl ⟨rfl, by omega⟩ | exact Or.inr ⟨rfl, by omega⟩ | exact Or.inl rfl | exact Or.inr rfl | exact Or.inl ⟨rfl, by omega, by omega⟩ | exact (z_01 (by omega) (by omega)).symm), hI⟩)
          · skip
            have c63 : ¬ (r56.toInt ≤ r28.toInt) := fun q => c63 ((z_le rfl rfl).mpr q)
            refine dv_iconst (v := 1) dX4_piece_148 (by decide) ?_
            refine dv_goto (tgt := 188) dX4_piece_149 (by decide) ?_
            have q65 : (1 : Int32).toInt = 1 := by decide
            exact dv_zret dX4_piece_188 rfl rfl (by first | exact Nat.zero_le _ | decide) (by first | exact Nat.zero_le _ | decide) (by subst hK; exact ⟨1, rfl, (by first | exact Or.inl ⟨rfl, by omega⟩ | exact Or.inr ⟨rfl, by omega⟩ | exact Or.inl rfl | exact Or.inr rfl | exact Or.inl ⟨rfl, by omega, by omega⟩ | exact (z_01 (by omega) (by omega)).symm), hI⟩)
      · skip
        have c50 : ¬ (r47.toInt = 60) := fun q => c50 ((z_eq rfl (by decide : (60 : Int32).toInt = 60)).mpr q)
        refine dv_iload dX4_piece_96 0 rfl ?_
        refine dv_bipush (v := 62) dX4_piece_98 (by decide) ?_
        refine dv_icmp_eq (tgt := 117) dX4_piece_100 (by decide) (fun c66 => ?_) (fun c66 => ?_)
        · skip
          have c66 : r47.toInt = 62 := (z_eq rfl (by decide : (62 : Int32).toInt = 62)).mp c66
          refine dv_aload_n dX4_piece_117 rfl 2 rfl ?_
          refine dv_dup dX4_piece_118 rfl ?_
          refine dv_get (ci := 4) (v := .int atx38) (C := RX4) (T := TX4) (N := 11) ⟨by omega, pG_of (by omega)⟩ hs30 rfl inG4 9 (by decide) mm_228 rfl dX4_piece_119 ?_
          refine dv_iconst (v := 1) dX4_piece_122 (by decide) ?_
          refine dv_iadd dX4_piece_123 ?_
          refine dv_topi (fun x67 ex67 => ?_)
          have tx67 : x67.toInt = atx38.toInt + 1 := by rw [ex67]; exact z_add rfl (by decide : (1 : Int32).toInt = 1) (by omega) (by omega)
          have hat67 : atx38.toInt ≤ 99 := by first | exact nxp_use h49 (by omega)
          refine dv_put (ci := 4) (v := .int x67) (ty := .int) (C := RX4) (T := TX4) (N := 11) ⟨by omega, pG_of (by omega)⟩ hs30 rfl inG4 tyX4 tyX4_ok nmX4 9 (by decide) mm_228 rfl (by decide +kernel) (fun _ => rfl) (fun _ => rfl) (Nat.le_of_ble_eq_true rfl) dX4_piece_124 (en := .inr (4, [.int tld31, .int ofb32, .int hol33, .int flt34, .int fla35, .int ofl36, .ref (kg + 1), .ref (kg + 2), .int len37, .int x67, .int ref39])) rfl (fun ct68 ec69 => ?_)
          have hI : Inv8 g idn pe ct68 := by rw [ec69]; exact up8 hI (i8_44 (kc := kg) (by omega) ⟨(tld31 : Int32), (ofb32 : Int32), (hol33 : Int32), (flt34 : Int32), (fla35 : Int32), (ofl36 : Int32), (len37 : Int32), (x67 : Int32), (ref39 : Int32), hz40, (by first | omega | decide), (by first | omega | decide), (by first | omega | decide), (by first | omega | decide), hz45, rfl⟩)
          have hs70 : ct68 kg = .inr (4, [.int tld31, .int ofb32, .int hol33, .int flt34, .int fla35, .int ofl36, .ref (kg + 1), .ref (kg + 2), .int len37, .int x67, .int ref39]) := by rw [ec69]; exact va_up_self _ _ _
          refine dv_aload_n dX4_piece_127 rfl 2 rfl ?_
          refine dv_iload_n dX4_piece_128 rfl 3 rfl ?_
          refine dv_iload_n dX4_piece_129 rfl 4 rfl ?_
          refine GW.callV (n := 2) (As := [.int 6, .int ask]) (rest := []) (b := kg) (k_X4_sum_6 l g pe ct68 kg ask (by omega) hI) (fun _ h => h) rfl rfl ⟨by omega, pG_of (by omega)⟩ hs70 (q := (RX4, TX4, 11)) rfl mm_616 mm_618 mm_28 mm_58 mm_619 (by decide +kernel) ⟨Nat.le_of_ble_eq_true rfl, Nat.le_of_ble_eq_true rfl⟩ rfl (Nat.le_of_ble_eq_true rfl) dX4_piece_130 (Nat.zero_le _) (Nat.zero_le _) rfl (fun ct71 rrr72 hBr72 hoff73 => ?_)
          obtain ⟨r72, rfl, hr72, hI⟩ := hBr72
          refine GW.eq (S2 := [.int r72]) rfl rfl rfl ?_
          refine dv_istore (lv' := [(5, .int r72), (4, .int r47), (3, .int r28), (0, .ref kg), (1, .int 6), (2, .int ask)]) dX4_piece_133 (by decide) rfl ?_
          refine dv_iload dX4_piece_135 1 rfl ?_
          refine dv_bipush (v := 60) dX4_piece_137 (by decide) ?_
          refine dv_icmp_ne (tgt := 156) dX4_piece_139 (by decide) (fun c74 => ?_) (fun c74 => ?_)
          · skip
            have c74 : ¬ (r47.toInt = 60) := fun q => c74 ((z_eq rfl (by decide : (60 : Int32).toInt = 60)).mpr q)
            refine dv_iload dX4_piece_156 1 rfl ?_
            refine dv_bipush (v := 62) dX4_piece_158 (by decide) ?_
            refine dv_icmp_ne (tgt := 177) dX4_piece_160 (by decide) (fun c75 => ?_) (fun c75 => ?_)
            · skip
              have c75 : ¬ (r47.toInt = 62) := fun q => c75 ((z_eq rfl (by decide : (62 : Int32).toInt = 62)).mpr q)
              refine dv_iload_n dX4_piece_177 rfl 2 rfl ?_
              refine dv_iload dX4_piece_178 0 rfl ?_
              refine dv_icmp_ne (tgt := 187) dX4_piece_180 (by decide) (fun c76 => ?_) (fun c76 => ?_)
              · skip
                have c76 : ¬ (r28.toInt = r72.toInt) := fun q => c76 ((z_eq rfl rfl).mpr q)
                refine dv_iconst (v := 0) dX4_piece_187 (by decide) ?_
                have q77 : (0 : Int32).toInt = 0 := by decide
                exact dv_zret dX4_piece_188 rfl rfl (by first | exact Nat.zero_le _ | decide) (by first | exact Nat.zero_le _ | decide) (by subst hK; exact ⟨0, rfl, (by first | exact Or.inl ⟨rfl, by omega⟩ | exact Or.inr ⟨rfl, by omega⟩ | exact Or.inl rfl | exact Or.inr rfl | exact Or.inl ⟨rfl, by omega, by omega⟩ | exact (z_01 (by omega) (by omega)).symm), hI⟩)
              · skip
                have c76 : r28.toInt = r72.toInt := (z_eq rfl rfl).mp c76
                refine dv_iconst (v := 1) dX4_piece_183 (by decide) ?_
                refine dv_goto (tgt := 188) dX4_piece_184 (by decide) ?_
                have q78 : (1 : Int32).toInt = 1 := by decide
                exact dv_zret dX4_piece_188 rfl rfl (by first | exact Nat.zero_le _ | decide) (by first | exact Nat.zero_le _ | decide) (by subst hK; exact ⟨1, rfl, (by first | exact Or.inl ⟨rfl, by omega⟩ | exact Or.inr ⟨rfl, by omega⟩ | exact Or.inl rfl | exact Or.inr rfl | exact Or.inl ⟨rfl, by omega, by omega⟩ | exact (z_01 (by omega) (by omega)).symm), hI⟩)
            · skip
              have c75 : r47.toInt = 62 := (z_eq rfl (by decide : (62 : Int32).toInt = 62)).mp c75
              refine dv_iload_n dX4_piece_163 rfl 2 rfl ?_
              refine dv_iload dX4_piece_164 0 rfl ?_
              refine dv_icmp_le (tgt := 173) dX4_piece_166 (by decide) (fun c79 => ?_) (fun c79 => ?_)
              · skip
                have c79 : r28.toInt ≤ r72.toInt := (z_le rfl rfl).mp c79
                refine dv_iconst (v := 0) dX4_piece_173 (by decide) ?_
                refine dv_goto (tgt := 188) dX4_piece_174 (by decide) ?_
                have q80 : (0 : Int32).toInt = 0 := by decide
                exact dv_zret dX4_piece_188 rfl rfl (by first | exact Nat.zero_le _ | decide) (by first | exact Nat.zero_le _ | decide) (by subst hK; exact ⟨0, rfl, (by first | exact Or.inl ⟨rfl, by omega⟩ | exact Or.inr ⟨rfl, by omega⟩ | exact Or.inl rfl | exact Or.inr rfl | exact Or.inl ⟨rfl, by omega, by omega⟩ | exact (z_01 (by omega) (by omega)).symm), hI⟩)
              · skip
                have c79 : ¬ (r28.toInt ≤ r72.toInt) := fun q => c79 ((z_le rfl rfl).mpr q)
                refine dv_iconst (v := 1) dX4_piece_169 (by decide) ?_
                refine dv_goto (tgt := 188) dX4_piece_170 (by decide) ?_
                have q81 : (1 : Int32).toInt = 1 := by decide
                exact dv_zret dX4_piece_188 rfl rfl (by first | exact Nat.zero_le _ | decide) (by first | exact Nat.zero_le _ | decide) (by subst hK; exact ⟨1, rfl, (by first | exact Or.inl ⟨rfl, by omega⟩ | exact Or.inr ⟨rfl, by omega⟩ | exact Or.inl rfl | exact Or.inr rfl | exact Or.inl ⟨rfl, by omega, by omega⟩ | exact (z_01 (by omega) (by omega)).symm), hI⟩)
          · skip
            have c74 : r47.toInt = 60 := (z_eq rfl (by decide : (60 : Int32).toInt = 60)).mp c74
            exfalso
            omega
        · skip
          have c66 : ¬ (r47.toInt = 62) := fun q => c66 ((z_eq rfl (by decide : (62 : Int32).toInt = 62)).mpr q)
          refine dv_iload dX4_piece_103 0 rfl ?_
          refine dv_bipush (v := 61) dX4_piece_105 (by decide) ?_
          refine dv_icmp_eq (tgt := 117) dX4_piece_107 (by decide) (fun c82 => ?_) (fun c82 => ?_)
          · skip
            have c82 : r47.toInt = 61 := (z_eq rfl (by decide : (61 : Int32).toInt = 61)).mp c82
            refine dv_aload_n dX4_piece_117 rfl 2 rfl ?_
            refine dv_dup dX4_piece_118 rfl ?_
            refine dv_get (ci := 4) (v := .int atx38) (C := RX4) (T := TX4) (N := 11) ⟨by omega, pG_of (by omega)⟩ hs30 rfl inG4 9 (by decide) mm_228 rfl dX4_piece_119 ?_
            refine dv_iconst (v := 1) dX4_piece_122 (by decide) ?_
            refine dv_iadd dX4_piece_123 ?_
            refine dv_topi (fun x83 ex83 => ?_)
            have tx83 : x83.toInt = atx38.toInt + 1 := by rw [ex83]; exact z_add rfl (by decide : (1 : Int32).toInt = 1) (by omega) (by omega)
            have hat83 : atx38.toInt ≤ 99 := by first | exact nxp_use h49 (by omega)
            refine dv_put (ci := 4) (v := .int x83) (ty := .int) (C := RX4) (T := TX4) (N := 11) ⟨by omega, pG_of (by omega)⟩ hs30 rfl inG4 tyX4 tyX4_ok nmX4 9 (by decide) mm_228 rfl (by decide +kernel) (fun _ => rfl) (fun _ => rfl) (Nat.le_of_ble_eq_true rfl) dX4_piece_124 (en := .inr (4, [.int tld31, .int ofb32, .int hol33, .int flt34, .int fla35, .int ofl36, .ref (kg + 1), .ref (kg + 2), .int len37, .int x83, .int ref39])) rfl (fun ct84 ec85 => ?_)
            have hI : Inv8 g idn pe ct84 := by rw [ec85]; exact up8 hI (i8_44 (kc := kg) (by omega) ⟨(tld31 : Int32), (ofb32 : Int32), (hol33 : Int32), (flt34 : Int32), (fla35 : Int32), (ofl36 : Int32), (len37 : Int32), (x83 : Int32), (ref39 : Int32), hz40, (by first | omega | decide), (by first | omega | decide), (by first | omega | decide), (by first | omega | decide), hz45, rfl⟩)
            have hs86 : ct84 kg = .inr (4, [.int tld31, .int ofb32, .int hol33, .int flt34, .int fla35, .int ofl36, .ref (kg + 1), .ref (kg + 2), .int len37, .int x83, .int ref39]) := by rw [ec85]; exact va_up_self _ _ _
            refine dv_aload_n dX4_piece_127 rfl 2 rfl ?_
            refine dv_iload_n dX4_piece_128 rfl 3 rfl ?_
            refine dv_iload_n dX4_piece_129 rfl 4 rfl ?_
            refine GW.callV (n := 2) (As := [.int 6, .int ask]) (rest := []) (b := kg) (k_X4_sum_6 l g pe ct84 kg ask (by omega) hI) (fun _ h => h) rfl rfl ⟨by omega, pG_of (by omega)⟩ hs86 (q := (RX4, TX4, 11)) rfl mm_616 mm_618 mm_28 mm_58 mm_619 (by decide +kernel) ⟨Nat.le_of_ble_eq_true rfl, Nat.le_of_ble_eq_true rfl⟩ rfl (Nat.le_of_ble_eq_true rfl) dX4_piece_130 (Nat.zero_le _) (Nat.zero_le _) rfl (fun ct87 rrr88 hBr88 hoff89 => ?_)
            obtain ⟨r88, rfl, hr88, hI⟩ := hBr88
            refine GW.eq (S2 := [.int r88]) rfl rfl rfl ?_
            refine dv_istore (lv' := [(5, .int r88), (4, .int r47), (3, .int r28), (0, .ref kg), (1, .int 6), (2, .int ask)]) dX4_piece_133 (by decide) rfl ?_
            refine dv_iload dX4_piece_135 1 rfl ?_
            refine dv_bipush (v := 60) dX4_piece_137 (by decide) ?_
            refine dv_icmp_ne (tgt := 156) dX4_piece_139 (by decide) (fun c90 => ?_) (fun c90 => ?_)
            · skip
              have c90 : ¬ (r47.toInt = 60) := fun q => c90 ((z_eq rfl (by decide : (60 : Int32).toInt = 60)).mpr q)
              refine dv_iload dX4_piece_156 1 rfl ?_
              refine dv_bipush (v := 62) dX4_piece_158 (by decide) ?_
              refine dv_icmp_ne (tgt := 177) dX4_piece_160 (by decide) (fun c91 => ?_) (fun c91 => ?_)
              · skip
                have c91 : ¬ (r47.toInt = 62) := fun q => c91 ((z_eq rfl (by decide : (62 : Int32).toInt = 62)).mpr q)
                refine dv_iload_n dX4_piece_177 rfl 2 rfl ?_
                refine dv_iload dX4_piece_178 0 rfl ?_
                refine dv_icmp_ne (tgt := 187) dX4_piece_180 (by decide) (fun c92 => ?_) (fun c92 => ?_)
                · skip
                  have c92 : ¬ (r28.toInt = r88.toInt) := fun q => c92 ((z_eq rfl rfl).mpr q)
                  refine dv_iconst (v := 0) dX4_piece_187 (by decide) ?_
                  have q93 : (0 : Int32).toInt = 0 := by decide
                  exact dv_zret dX4_piece_188 rfl rfl (by first | exact Nat.zero_le _ | decide) (by first | exact Nat.zero_le _ | decide) (by subst hK; exact ⟨0, rfl, (by first | exact Or.inl ⟨rfl, by omega⟩ | exact Or.inr ⟨rfl, by omega⟩ | exact Or.inl rfl | exact Or.inr rfl | exact Or.inl ⟨rfl, by omega, by omega⟩ | exact (z_01 (by omega) (by omega)).symm), hI⟩)
                · skip
                  have c92 : r28.toInt = r88.toInt := (z_eq rfl rfl).mp c92
                  refine dv_iconst (v := 1) dX4_piece_183 (by decide) ?_
                  refine dv_goto (tgt := 188) dX4_piece_184 (by decide) ?_
                  have q94 : (1 : Int32).toInt = 1 := by decide
                  exact dv_zret dX4_piece_188 rfl rfl (by first | exact Nat.zero_le _ | decide) (by first | exact Nat.zero_le _ | decide) (by subst hK; exact ⟨1, rfl, (by first | exact Or.inl ⟨rfl, by omega⟩ | exact Or.inr ⟨rfl, by omega⟩ | exact Or.inl rfl | exact Or.inr rfl | exact Or.inl ⟨rfl, by omega, by omega⟩ | exact (z_01 (by omega) (by omega)).symm), hI⟩)
              · skip
                have c91 : r47.toInt = 62 := (z_eq rfl (by decide : (62 : Int32).toInt = 62)).mp c91
                exfalso
                omega
            · skip
              have c90 : r47.toInt = 60 := (z_eq rfl (by decide : (60 : Int32).toInt = 60)).mp c90
              exfalso
              omega
          · skip
            have c82 : ¬ (r47.toInt = 61) := fun q => c82 ((z_eq rfl (by decide : (61 : Int32).toInt = 61)).mpr q)
            refine dv_aload_n dX4_piece_110 rfl 2 rfl ?_
            refine dv_iconst (v := 1) dX4_piece_111 (by decide) ?_
            refine GW.callV (n := 1) (As := [.int 1]) (rest := []) (b := kg) (k_X4_fail l g pe ct27 kg (1 : Int32) (by omega) hI) (fun _ h => h) rfl rfl ⟨by omega, pG_of (by omega)⟩ hs30 (q := (RX4, TX4, 11)) rfl mm_608 mm_610 mm_26 mm_58 mm_611 (by decide +kernel) ⟨Nat.le_of_ble_eq_true rfl, Nat.le_of_ble_eq_true rfl⟩ rfl (Nat.le_of_ble_eq_true rfl) dX4_piece_112 (Nat.zero_le _) (Nat.zero_le _) rfl (fun ct95 rrr96 hBr96 hoff97 => ?_)
            obtain ⟨rfl, hI⟩ := hBr96
            refine GW.eq (S2 := []) rfl rfl rfl ?_
            refine dv_iconst (v := 0) dX4_piece_115 (by decide) ?_
            have q98 : (0 : Int32).toInt = 0 := by decide
            exact dv_zret dX4_piece_116 rfl rfl (by first | exact Nat.zero_le _ | decide) (by first | exact Nat.zero_le _ | decide) (by subst hK; exact ⟨0, rfl, (by first | exact Or.inl ⟨rfl, by omega⟩ | exact Or.inr ⟨rfl, by omega⟩ | exact Or.inl rfl | exact Or.inr rfl | exact Or.inl ⟨rfl, by omega, by omega⟩ | exact (z_01 (by omega) (by omega)).symm), hI⟩)
    · skip
      have c26 : r23.toInt = 40 := (z_eq rfl (by decide : (40 : Int32).toInt = 40)).mp c26
      refine dv_aload_n dX4_piece_43 rfl 0 rfl ?_
      refine dv_iload_n dX4_piece_44 rfl 1 rfl ?_
      refine GW.callV (n := 1) (As := [.int 6]) (rest := []) (b := kg) (k_X4_opens l g pe ct kg (6 : Int32) tld2 ofb3 hol4 flt5 fla6 ofl7 len8 atx9 ref10 (by omega) hI hs1 (by first | exact nxp_use h20 (by omega) | exact nxp_use h25 (by omega) | omega)) (fun _ h => h) rfl rfl ⟨by omega, pG_of (by omega)⟩ hs1 (q := (RX4, TX4, 11)) rfl mm_604 mm_606 mm_25 mm_58 mm_607 (by decide +kernel) ⟨Nat.le_of_ble_eq_true rfl, Nat.le_of_ble_eq_true rfl⟩ rfl (Nat.le_of_ble_eq_true rfl) dX4_piece_45 (Nat.zero_le _) (Nat.zero_le _) rfl (fun ct99 rrr100 hBr100 hoff101 => ?_)
      obtain ⟨r100, rfl, hr100, hI⟩ := hBr100
      refine GW.eq (S2 := [.int r100]) rfl rfl rfl ?_
      rcases hr100 with hr100 | hr100
      · skip
        obtain ⟨rfl, h102⟩ := hr100
        have h102 : (6 : Int) < 6 := h102
        exfalso
        omega
      · skip
        obtain rfl := hr100
        refine dv_if_eq (tgt := 66) dX4_piece_48 (by decide) (fun c103 => ?_) (fun c103 => ?_)
        · skip
          refine dv_iconst (v := 0) dX4_piece_66 (by decide) ?_
          refine dv_istore_n (lv' := [(3, .int 0), (0, .ref kg), (1, .int 6), (2, .int ask)]) dX4_piece_67 rfl (by decide) rfl ?_
          refine dv_aload_n dX4_piece_68 rfl 1 rfl ?_
          refine dv_bipush (v := 41) dX4_piece_69 (by decide) ?_
          obtain ⟨tld106, ofb107, hol108, flt109, fla110, ofl111, len112, atx113, ref114, hz115, h116, h117, h118, h119, hz120, hs105⟩ := a8_44 (kc := kg) (by omega) hI
          have bhz115 := z_b01 hz115
          have bhz120 := z_b01 hz120
          refine GW.callV (n := 1) (As := [.int 41]) (rest := []) (b := kg) (k_X4_expect l g pe ct99 kg (41 : Int32) (by omega) (by first | omega | decide) hI) (fun _ h => h) rfl rfl ⟨by omega, pG_of (by omega)⟩ hs105 (q := (RX4, TX4, 11)) rfl mm_612 mm_614 mm_27 mm_58 mm_615 (by decide +kernel) ⟨Nat.le_of_ble_eq_true rfl, Nat.le_of_ble_eq_true rfl⟩ rfl (Nat.le_of_ble_eq_true rfl) dX4_piece_71 (Nat.zero_le _) (Nat.zero_le _) rfl (fun ct104 rrr121 hBr121 hoff122 => ?_)
          obtain ⟨rfl, hI⟩ := hBr121
          refine GW.eq (S2 := []) rfl rfl rfl ?_
          refine dv_iload_n dX4_piece_74 rfl 0 rfl ?_
          have q123 : (0 : Int32).toInt = 0 := by decide
          exact dv_zret dX4_piece_75 rfl rfl (by first | exact Nat.zero_le _ | decide) (by first | exact Nat.zero_le _ | decide) (by subst hK; exact ⟨0, rfl, (by first | exact Or.inl ⟨rfl, by omega⟩ | exact Or.inr ⟨rfl, by omega⟩ | exact Or.inl rfl | exact Or.inr rfl | exact Or.inl ⟨rfl, by omega, by omega⟩ | exact (z_01 (by omega) (by omega)).symm), hI⟩)
        · skip
          exact absurd c103 (by decide)
  · skip
    have c21 : r18.toInt = 33 := (z_eq rfl (by decide : (33 : Int32).toInt = 33)).mp c21
    refine dv_aload_n dX4_piece_9 rfl 0 rfl ?_
    refine dv_iload_n dX4_piece_10 rfl 1 rfl ?_
    refine GW.callV (n := 1) (As := [.int 6]) (rest := []) (b := kg) (k_X4_opens l g pe ct kg (6 : Int32) tld2 ofb3 hol4 flt5 fla6 ofl7 len8 atx9 ref10 (by omega) hI hs1 (by first | exact nxp_use h20 (by omega) | omega)) (fun _ h => h) rfl rfl ⟨by omega, pG_of (by omega)⟩ hs1 (q := (RX4, TX4, 11)) rfl mm_604 mm_606 mm_25 mm_58 mm_607 (by decide +kernel) ⟨Nat.le_of_ble_eq_true rfl, Nat.le_of_ble_eq_true rfl⟩ rfl (Nat.le_of_ble_eq_true rfl) dX4_piece_11 (Nat.zero_le _) (Nat.zero_le _) rfl (fun ct124 rrr125 hBr125 hoff126 => ?_)
    obtain ⟨r125, rfl, hr125, hI⟩ := hBr125
    refine GW.eq (S2 := [.int r125]) rfl rfl rfl ?_
    rcases hr125 with hr125 | hr125
    · skip
      obtain ⟨rfl, h127⟩ := hr125
      have h127 : (6 : Int) < 6 := h127
      exfalso
      omega
    · skip
      obtain rfl := hr125
      refine dv_if_eq (tgt := 32) dX4_piece_14 (by decide) (fun c128 => ?_) (fun c128 => ?_)
      · skip
        refine dv_iconst (v := 0) dX4_piece_32 (by decide) ?_
        have q129 : (0 : Int32).toInt = 0 := by decide
        exact dv_zret dX4_piece_33 rfl rfl (by first | exact Nat.zero_le _ | decide) (by first | exact Nat.zero_le _ | decide) (by subst hK; exact ⟨0, rfl, (by first | exact Or.inl ⟨rfl, by omega⟩ | exact Or.inr ⟨rfl, by omega⟩ | exact Or.inl rfl | exact Or.inr rfl | exact Or.inl ⟨rfl, by omega, by omega⟩ | exact (z_01 (by omega) (by omega)).symm), hI⟩)
      · skip
        exact absurd c128 (by decide)
