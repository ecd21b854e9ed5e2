set_option maxHeartbeats 4000000 in
set_option maxRecDepth 100000 in
theorem f_findSome (l : Launch) (g : zG) (pe : Int32) (ct : Nat → va_E) (ln0 : Int32) (lv0 : Int32) (lk0 : Int32) (fd0 : Int32) (fL : Nat → Int32) (hI : Inv8 g idn pe ct) (h10 : ct 10 = .inr (6, [.int ln0, .int lv0, .int lk0, .int fd0, .ref 11, .ref 12, .ref 13, .ref 14, .ref 15, .ref 16])) (h16 : ct 16 = .inl (g.2 0, 8, .inl fL)) (hfd : 0 ≤ fd0.toInt ∧ fd0.toInt ≤ 255) : DM l g pM false yX6_findSome cX6_findSome 6 (some .boolean) ({ frames := 1, cells := 0, slots := 0, locals := 20 }) (fun (ct2 : Nat → va_E) (rr : Option Value) => ∃ (r : Int32), rr = some (.int r) ∧ (((r = if (fsA fd0 fL ln0.toInt.toNat).2.2.toInt = 0 then 0 else 1))) ∧ Inv8 g idn pe ct2 ∧ (ct2 10 = .inr (6, [.int ln0, .int lv0, .int lk0, .int (fd0 ||| (fsA fd0 fL ln0.toInt.toNat).2.2), .ref 11, .ref 12, .ref 13, .ref 14, .ref 15, .ref 16])) ∧ (∃ fL2 : Nat → Int32, ct2 16 = .inl (g.2 0, 8, .inl fL2) ∧ ∀ j, j < 8 → fL2 j = fsC ln0.toInt.toNat (fsA fd0 fL ln0.toInt.toNat) fL j) ∧ (0 ≤ (fd0 ||| (fsA fd0 fL ln0.toInt.toNat).2.2).toInt ∧ (fd0 ||| (fsA fd0 fL ln0.toInt.toNat).2.2).toInt ≤ 255) ∧ (ct2 11 = ct 11) ∧ (ct2 12 = ct 12) ∧ (ct2 13 = ct 13) ∧ (ct2 14 = ct 14) ∧ (ct2 15 = ct 15)) ct [.ref 10] := by
  refine DM.K (fun K hK => ?_)
  refine GW.met (own := RX6) (loc := [(0, .ref 10)]) (by decide) rfl rfl (Nat.le_of_ble_eq_true rfl) ?_
  have hpe0 := hI.1
  obtain ⟨lns2, liv3, lak4, fnd5, h6, h7, h8, h9, hs1⟩ := a8_10 hI
  have hs10 := h10
  cases (h10.symm.trans hs1)
  obtain ⟨f12, hs11⟩ := a8_16 hI
  have hs13 := h16
  cases (h16.symm.trans hs11)
  have hc11 : ct 11 = ct 11 := rfl
  have hc12 : ct 12 = ct 12 := rfl
  have hc13 : ct 13 = ct 13 := rfl
  have hc14 : ct 14 = ct 14 := rfl
  have hc15 : ct 15 = ct 15 := rfl
  refine dv_iconst (v := 0) dX6_findSome_0 (by decide) ?_
  refine dv_istore_n (lv' := [(1, .int 0), (0, .ref 10)]) dX6_findSome_1 rfl (by decide) rfl ?_
  refine dv_iconst (v := 0) dX6_findSome_2 (by decide) ?_
  refine dv_istore_n (lv' := [(2, .int 0), (1, .int 0), (0, .ref 10)]) dX6_findSome_3 rfl (by decide) rfl ?_
  refine dv_iconst (v := 0) dX6_findSome_4 (by decide) ?_
  refine dv_istore_n (lv' := [(3, .int 0), (2, .int 0), (1, .int 0), (0, .ref 10)]) dX6_findSome_5 rfl (by decide) rfl ?_
  refine dv_iconst (v := 0) dX6_findSome_6 (by decide) ?_
  refine dv_istore (lv' := [(4, .int 0), (3, .int 0), (2, .int 0), (1, .int 0), (0, .ref 10)]) dX6_findSome_7 (by decide) rfl ?_
  have loop9 : ∀ (n9 : Nat) (v4_9 : Int32) (v3_9 : Int32) (v2_9 : Int32) (v1_9 : Int32) (ct14 : Nat → va_E), ((8 - v4_9.toInt : Int).toNat < n9) → (0 ≤ v4_9.toInt ∧ v4_9.toInt ≤ 8) → (0 ≤ v3_9.toInt ∧ v3_9.toInt ≤ 255) → (v4_9.toInt ≤ ln0.toInt) → ((v1_9, v2_9, v3_9) = fsA fd0 fL v4_9.toInt.toNat) → (ct14 11 = ct 11) → (ct14 12 = ct 12) → (ct14 13 = ct 13) → (ct14 14 = ct 14) → (ct14 15 = ct 15) → (ct14 10 = .inr (6, [.int ln0, .int lv0, .int lk0, .int fd0, .ref 11, .ref 12, .ref 13, .ref 14, .ref 15, .ref 16])) → (ct14 16 = .inl (g.2 0, 8, .inl fL)) → (Inv8 g idn pe ct14) → GW l g pM pM false yX6_findSome cX6_findSome 6 (some .boolean) RX6 ({ frames := 1, cells := 0, slots := 0, locals := 20 }) K 0 0 ct14 9 [(4, .int v4_9), (3, .int v3_9), (2, .int v2_9), (1, .int v1_9), (0, .ref 10)] [] := by
    intro n9
    induction n9 with
    | zero =>
      intro v4_9 v3_9 v2_9 v1_9 ct14 hn9 b4_9 b3_9 j0_9 j1_9 hc11 hc12 hc13 hc14 hc15 kp10_9 kp16_9 hI
      exact absurd hn9 (Nat.not_lt_zero _)
    | succ n9 ih9 =>
      intro v4_9 v3_9 v2_9 v1_9 ct14 hn9 b4_9 b3_9 j0_9 j1_9 hc11 hc12 hc13 hc14 hc15 kp10_9 kp16_9 hI
      refine dv_iload dX6_findSome_9 0 rfl ?_
      refine dv_aload_n dX6_findSome_11 rfl 4 rfl ?_
      refine dv_get (ci := 6) (v := .int ln0) (C := RX6) (T := TX6) (N := 10) ⟨by decide, rfl⟩ kp10_9 rfl inG6 0 (by decide) mm_115 rfl dX6_findSome_12 ?_
      refine dv_icmp_ge (tgt := 79) dX6_findSome_15 (by decide) (fun c15 => ?_) (fun c15 => ?_)
      · skip
        have c15 : ln0.toInt ≤ v4_9.toInt := (z_le rfl rfl).mp c15
        have hX : fsA fd0 fL ln0.toInt.toNat = (v1_9, v2_9, v3_9) := by rw [show ln0.toInt.toNat = v4_9.toInt.toNat by omega]; exact j1_9.symm
        refine dv_iconst (v := 0) dX6_findSome_79 (by decide) ?_
        refine dv_istore (lv' := [(4, .int 0), (3, .int v3_9), (2, .int v2_9), (1, .int v1_9), (0, .ref 10)]) dX6_findSome_80 (by decide) rfl ?_
        have loop82 : ∀ (n82 : Nat) (v4_82 : Int32) (fN16 : Nat → Int32) (ct18 : Nat → va_E), ((8 - v4_82.toInt : Int).toNat < n82) → (0 ≤ v4_82.toInt ∧ v4_82.toInt ≤ 8) → (v4_82.toInt ≤ ln0.toInt) → (∀ j, j < 8 → fN16 j = fsC v4_82.toInt.toNat (v1_9, v2_9, v3_9) fL j) → (ct18 11 = ct 11) → (ct18 12 = ct 12) → (ct18 13 = ct 13) → (ct18 14 = ct 14) → (ct18 15 = ct 15) → (ct18 16 = .inl (g.2 0, 8, .inl fN16)) → (ct18 10 = .inr (6, [.int ln0, .int lv0, .int lk0, .int fd0, .ref 11, .ref 12, .ref 13, .ref 14, .ref 15, .ref 16])) → (Inv8 g idn pe ct18) → GW l g pM pM false yX6_findSome cX6_findSome 6 (some .boolean) RX6 ({ frames := 1, cells := 0, slots := 0, locals := 20 }) K 0 0 ct18 82 [(4, .int v4_82), (3, .int v3_9), (2, .int v2_9), (1, .int v1_9), (0, .ref 10)] [] := by
          intro n82
          induction n82 with
          | zero =>
            intro v4_82 fN16 ct18 hn82 b4_82 j0_82 j1_82 hc11 hc12 hc13 hc14 hc15 hq17 kp10_82 hI
            exact absurd hn82 (Nat.not_lt_zero _)
          | succ n82 ih82 =>
            intro v4_82 fN16 ct18 hn82 b4_82 j0_82 j1_82 hc11 hc12 hc13 hc14 hc15 hq17 kp10_82 hI
            obtain ⟨f20, hs19⟩ := a8_16 hI
            have hs21 := hq17
            cases (hq17.symm.trans hs19)
            refine dv_iload dX6_findSome_82 0 rfl ?_
            refine dv_aload_n dX6_findSome_84 rfl 4 rfl ?_
            refine dv_get (ci := 6) (v := .int ln0) (C := RX6) (T := TX6) (N := 10) ⟨by decide, rfl⟩ kp10_82 rfl inG6 0 (by decide) mm_115 rfl dX6_findSome_85 ?_
            refine dv_icmp_ge (tgt := 144) dX6_findSome_88 (by decide) (fun c22 => ?_) (fun c22 => ?_)
            · skip
              have c22 : ln0.toInt ≤ v4_82.toInt := (z_le rfl rfl).mp c22
              have hX16 : ∀ j, j < 8 → fN16 j = fsC ln0.toInt.toNat (fsA fd0 fL ln0.toInt.toNat) fL j := by
                rw [hX, show ln0.toInt.toNat = v4_82.toInt.toNat by omega]
                exact j1_82
              refine dv_aload_n dX6_findSome_144 rfl 4 rfl ?_
              refine dv_dup dX6_findSome_145 rfl ?_
              refine dv_get (ci := 6) (v := .int fd0) (C := RX6) (T := TX6) (N := 10) ⟨by decide, rfl⟩ kp10_82 rfl inG6 3 (by decide) mm_121 rfl dX6_findSome_146 ?_
              refine dv_iload_n dX6_findSome_149 rfl 1 rfl ?_
              refine dv_ior dX6_findSome_150 ?_
              refine dv_topi (fun x23 ex23 => ?_)
              have tx23 := z_or (x := fd0) (y := v3_9) rfl rfl (k := 8) (N := 256) (by decide) (by decide) (by omega) (by omega) (by omega) (by omega)
              rw [← ex23] at tx23
              have hfd9 : x23 = fd0 ||| (fsA fd0 fL ln0.toInt.toNat).2.2 := by rw [ex23, hX]
              refine dv_put (ci := 6) (v := .int x23) (ty := .int) (C := RX6) (T := TX6) (N := 10) ⟨by decide, rfl⟩ kp10_82 rfl inG6 tyX6 tyX6_ok nmX6 3 (by decide) mm_121 rfl (by decide +kernel) (fun _ => rfl) (fun _ => rfl) (Nat.le_of_ble_eq_true rfl) dX6_findSome_151 (en := .inr (6, [.int ln0, .int lv0, .int lk0, .int x23, .ref 11, .ref 12, .ref 13, .ref 14, .ref 15, .ref 16])) rfl (fun ct24 ec25 => ?_)
              have hI : Inv8 g idn pe ct24 := by rw [ec25]; exact up8 hI (i8_10 ⟨(ln0 : Int32), (lv0 : Int32), (lk0 : Int32), (x23 : Int32), (by first | omega | decide), (by first | omega | decide), (by first | omega | decide), (by first | omega | decide), rfl⟩)
              have hc11 : ct24 11 = ct 11 := by rw [ec25]; exact (va_up_ne _ _ (by omega)).trans hc11
              have hc12 : ct24 12 = ct 12 := by rw [ec25]; exact (va_up_ne _ _ (by omega)).trans hc12
              have hc13 : ct24 13 = ct 13 := by rw [ec25]; exact (va_up_ne _ _ (by omega)).trans hc13
              have hc14 : ct24 14 = ct 14 := by rw [ec25]; exact (va_up_ne _ _ (by omega)).trans hc14
              have hc15 : ct24 15 = ct 15 := by rw [ec25]; exact (va_up_ne _ _ (by omega)).trans hc15
              have hs26 : ct24 16 = .inl (g.2 0, 8, .inl fN16) := by rw [ec25, va_up_ne _ _ (by omega)]; exact hs21
              have hs27 : ct24 10 = .inr (6, [.int ln0, .int lv0, .int lk0, .int x23, .ref 11, .ref 12, .ref 13, .ref 14, .ref 15, .ref 16]) := by rw [ec25]; exact va_up_self _ _ _
              refine dv_iload_n dX6_findSome_154 rfl 1 rfl ?_
              refine dv_if_eq (tgt := 162) dX6_findSome_155 (by decide) (fun c28 => ?_) (fun c28 => ?_)
              · skip
                have c28 : v3_9.toInt = 0 := (z_eq rfl (by decide : (0 : Int32).toInt = 0)).mp c28
                refine dv_iconst (v := 0) dX6_findSome_162 (by decide) ?_
                have q29 : (0 : Int32).toInt = 0 := by decide
                exact dv_zret dX6_findSome_163 rfl rfl (by first | exact Nat.zero_le _ | decide) (by first | exact Nat.zero_le _ | decide) (by subst hK; exact ⟨0, rfl, (by rw [hX]; exact (if_pos (by omega)).symm), hI, (by rw [← hfd9]; exact hs27), (⟨_, hs26, hX16⟩), (by rw [← hfd9]; omega), (by assumption), (by assumption), (by assumption), (by assumption), (by assumption)⟩)
              · skip
                have c28 : ¬ (v3_9.toInt = 0) := fun q => c28 ((z_eq rfl (by decide : (0 : Int32).toInt = 0)).mpr q)
                refine dv_iconst (v := 1) dX6_findSome_158 (by decide) ?_
                refine dv_goto (tgt := 163) dX6_findSome_159 (by decide) ?_
                have q30 : (1 : Int32).toInt = 1 := by decide
                exact dv_zret dX6_findSome_163 rfl rfl (by first | exact Nat.zero_le _ | decide) (by first | exact Nat.zero_le _ | decide) (by subst hK; exact ⟨1, rfl, (by rw [hX]; exact (if_neg (by omega)).symm), hI, (by rw [← hfd9]; exact hs27), (⟨_, hs26, hX16⟩), (by rw [← hfd9]; omega), (by assumption), (by assumption), (by assumption), (by assumption), (by assumption)⟩)
            · skip
              have c22 : ¬ (ln0.toInt ≤ v4_82.toInt) := fun q => c22 ((z_le rfl rfl).mpr q)
              refine dv_iload_n dX6_findSome_91 rfl 1 rfl ?_
              refine dv_iload dX6_findSome_92 0 rfl ?_
              refine dv_ishr dX6_findSome_94 ?_
              refine dv_topi (fun x31 ex31 => ?_)
              have tx31 := z_shr (x := v3_9) rfl (by omega) v4_82
              rw [← ex31] at tx31
              refine dv_iconst (v := 1) dX6_findSome_95 (by decide) ?_
              refine dv_iand dX6_findSome_96 ?_
              refine dv_topi (fun x32 ex32 => ?_)
              have tx32 := z_andr (x := x31) (y := 1) (by decide : (1 : Int32).toInt = 1) (by omega)
              rw [← ex32] at tx32
              refine dv_iconst (v := 1) dX6_findSome_97 (by decide) ?_
              refine dv_icmp_ne (tgt := 117) dX6_findSome_98 (by decide) (fun c33 => ?_) (fun c33 => ?_)
              · skip
                have c33 : ¬ (x32.toInt = 1) := fun q => c33 ((z_eq rfl (by decide : (1 : Int32).toInt = 1)).mpr q)
                have hnow : ib v3_9 (v4_82.toInt.toNat) = false := by
                  rcases zb_ask (x := v3_9) (y := v4_82) (p := v4_82.toInt.toNat) (by omega) (by omega) (by omega) (ex32.trans (by rw [ex31])) with ⟨q1, q2⟩ | ⟨q1, q2⟩
                  · first | exact q2 | (exfalso; omega)
                  · first | exact q2 | (exfalso; omega)
                refine dv_iconst (v := 0) dX6_findSome_117 (by decide) ?_
                refine dv_istore (lv' := [(5, .int 0), (4, .int v4_82), (3, .int v3_9), (2, .int v2_9), (1, .int v1_9), (0, .ref 10)]) dX6_findSome_118 (by decide) rfl ?_
                refine dv_iload dX6_findSome_120 0 rfl ?_
                refine dv_if_ne (tgt := 138) dX6_findSome_122 (by decide) (fun c34 => ?_) (fun c34 => ?_)
                · skip
                  exact absurd c34 (by decide)
                · skip
                  refine dv_aload_n dX6_findSome_125 rfl 5 rfl ?_
                  refine dv_get (ci := 6) (v := .ref 16) (C := RX6) (T := TX6) (N := 10) ⟨by decide, rfl⟩ kp10_82 rfl inG6 9 (by decide) mm_131 rfl dX6_findSome_126 ?_
                  refine dv_iload dX6_findSome_129 1 rfl ?_
                  refine dv_dup2_11 dX6_findSome_131 rfl rfl ?_
                  refine dv_iald 0 ⟨by decide, rfl⟩ hs21 rfl (z_in rfl (by omega) (by omega)) dX6_findSome_132 ?_
                  refine dv_topi (fun y35 ey35 => ?_)
                  refine dv_iload_n dX6_findSome_133 rfl 4 rfl ?_
                  refine dv_iconst (v := (-1)) dX6_findSome_134 (by decide) ?_
                  refine dv_ixor dX6_findSome_135 ?_
                  refine dv_topi (fun x36 ex36 => ?_)
                  refine dv_iand dX6_findSome_136 ?_
                  refine dv_topi (fun x37 ex37 => ?_)
                  refine dv_iast 0 ⟨by decide, rfl⟩ hs21 rfl (z_in rfl (by omega) (by omega)) dX6_findSome_137 (en := .inl (g.2 0, 8, .inl (upd fN16 (Int32.toNatClampNeg v4_82) x37))) rfl (fun ct38 ec39 => ?_)
                  have hI : Inv8 g idn pe ct38 := by rw [ec39]; exact up8 hI (i8_16 ⟨_, rfl⟩)
                  have hc11 : ct38 11 = ct 11 := by rw [ec39]; exact (va_up_ne _ _ (by omega)).trans hc11
                  have hc12 : ct38 12 = ct 12 := by rw [ec39]; exact (va_up_ne _ _ (by omega)).trans hc12
                  have hc13 : ct38 13 = ct 13 := by rw [ec39]; exact (va_up_ne _ _ (by omega)).trans hc13
                  have hc14 : ct38 14 = ct 14 := by rw [ec39]; exact (va_up_ne _ _ (by omega)).trans hc14
                  have hc15 : ct38 15 = ct 15 := by rw [ec39]; exact (va_up_ne _ _ (by omega)).trans hc15
                  have hs40 : ct38 10 = .inr (6, [.int ln0, .int lv0, .int lk0, .int fd0, .ref 11, .ref 12, .ref 13, .ref 14, .ref 15, .ref 16]) := by rw [ec39, va_up_ne _ _ (by omega)]; exact kp10_82
                  have hs41 : ct38 16 = .inl (g.2 0, 8, .inl (upd fN16 (Int32.toNatClampNeg v4_82) x37)) := by rw [ec39]; exact va_up_self _ _ _
                  have hfc : ∀ j, j < 8 → ((upd fN16 (Int32.toNatClampNeg v4_82) x37)) j = fsC (v4_82.toInt.toNat + 1) (v1_9, v2_9, v3_9) fL j := by
                    have h132 : y35 = fL (v4_82.toInt.toNat) := (by rw [ey35, show Int32.toNatClampNeg v4_82 = v4_82.toInt.toNat by have := z_clI (x := v4_82) (by omega); omega, j1_82 _ (by omega)]; exact if_neg (by omega))
                    refine fsC_step j1_82 (by have := z_clI (x := v4_82) (by omega); omega) ?_
                    rw [ex37, ex36, h132]
                    exact (if_neg (fun q => by have q1 := q.1; rw [hnow] at q1; exact absurd q1 (by decide))).symm
                  obtain ⟨x42, ex42⟩ : ∃ y : Int32, y = v4_82 + 1 := ⟨_, rfl⟩
                  have tx42 : x42.toInt = v4_82.toInt + 1 := by rw [ex42]; exact z_add rfl (by decide : (1 : Int32).toInt = 1) (by omega) (by omega)
                  refine dv_iinc (v := x42) (lv' := [(4, .int x42), (5, .int 0), (3, .int v3_9), (2, .int v2_9), (1, .int v1_9), (0, .ref 10)]) dX6_findSome_138 (k := 1) rfl (by rw [ex42]; rfl) (by decide) rfl ?_
                  refine dv_goto (tgt := 82) dX6_findSome_141 (by decide) ?_
                  refine dv_sub (loc2 := [(4, .int x42), (3, .int v3_9), (2, .int v2_9), (1, .int v1_9), (0, .ref 10)]) [0, 2, 3, 4, 5] rfl ?_
                  exact ih82 x42 (upd fN16 (Int32.toNatClampNeg v4_82) x37) ct38 (by omega) (by omega) (by omega) (by rw [show x42.toInt.toNat = v4_82.toInt.toNat + 1 by omega]; exact hfc) hc11 hc12 hc13 hc14 hc15 hs41 hs40 hI
              · skip
                have c33 : x32.toInt = 1 := (z_eq rfl (by decide : (1 : Int32).toInt = 1)).mp c33
                have hnow : ib v3_9 (v4_82.toInt.toNat) = true := by
                  rcases zb_ask (x := v3_9) (y := v4_82) (p := v4_82.toInt.toNat) (by omega) (by omega) (by omega) (ex32.trans (by rw [ex31])) with ⟨q1, q2⟩ | ⟨q1, q2⟩
                  · first | exact q2 | (exfalso; omega)
                  · first | exact q2 | (exfalso; omega)
                refine dv_iload_n dX6_findSome_101 rfl 2 rfl ?_
                refine dv_aload_n dX6_findSome_102 rfl 4 rfl ?_
                refine dv_get (ci := 6) (v := .ref 16) (C := RX6) (T := TX6) (N := 10) ⟨by decide, rfl⟩ kp10_82 rfl inG6 9 (by decide) mm_131 rfl dX6_findSome_103 ?_
                refine dv_iload dX6_findSome_106 0 rfl ?_
                refine dv_iald 0 ⟨by decide, rfl⟩ hs21 rfl (z_in rfl (by omega) (by omega)) dX6_findSome_108 ?_
                refine dv_topi (fun y43 ey43 => ?_)
                refine dv_iand dX6_findSome_109 ?_
                refine dv_topi (fun x44 ex44 => ?_)
                refine dv_if_ne (tgt := 117) dX6_findSome_110 (by decide) (fun c45 => ?_) (fun c45 => ?_)
                · skip
                  have c45 : ¬ (x44.toInt = 0) := fun q => c45 ((z_eq rfl (by decide : (0 : Int32).toInt = 0)).mpr q)
                  have hold : y43 = fL (v4_82.toInt.toNat) := (by rw [ey43, show Int32.toNatClampNeg v4_82 = v4_82.toInt.toNat by have := z_clI (x := v4_82) (by omega); omega, j1_82 _ (by omega)]; exact if_neg (by omega))
                  have hst : ¬ (v2_9 &&& fL (v4_82.toInt.toNat)).toInt = 0 := by rw [← hold, ← ex44]; omega
                  refine dv_iconst (v := 0) dX6_findSome_117 (by decide) ?_
                  refine dv_istore (lv' := [(5, .int 0), (4, .int v4_82), (3, .int v3_9), (2, .int v2_9), (1, .int v1_9), (0, .ref 10)]) dX6_findSome_118 (by decide) rfl ?_
                  refine dv_iload dX6_findSome_120 0 rfl ?_
                  refine dv_if_ne (tgt := 138) dX6_findSome_122 (by decide) (fun c46 => ?_) (fun c46 => ?_)
                  · skip
                    exact absurd c46 (by decide)
                  · skip
                    refine dv_aload_n dX6_findSome_125 rfl 5 rfl ?_
                    refine dv_get (ci := 6) (v := .ref 16) (C := RX6) (T := TX6) (N := 10) ⟨by decide, rfl⟩ kp10_82 rfl inG6 9 (by decide) mm_131 rfl dX6_findSome_126 ?_
                    refine dv_iload dX6_findSome_129 1 rfl ?_
                    refine dv_dup2_11 dX6_findSome_131 rfl rfl ?_
                    refine dv_iald 0 ⟨by decide, rfl⟩ hs21 rfl (z_in rfl (by omega) (by omega)) dX6_findSome_132 ?_
                    refine dv_topi (fun y47 ey47 => ?_)
                    refine dv_iload_n dX6_findSome_133 rfl 4 rfl ?_
                    refine dv_iconst (v := (-1)) dX6_findSome_134 (by decide) ?_
                    refine dv_ixor dX6_findSome_135 ?_
                    refine dv_topi (fun x48 ex48 => ?_)
                    refine dv_iand dX6_findSome_136 ?_
                    refine dv_topi (fun x49 ex49 => ?_)
                    refine dv_iast 0 ⟨by decide, rfl⟩ hs21 rfl (z_in rfl (by omega) (by omega)) dX6_findSome_137 (en := .inl (g.2 0, 8, .inl (upd fN16 (Int32.toNatClampNeg v4_82) x49))) rfl (fun ct50 ec51 => ?_)
                    have hI : Inv8 g idn pe ct50 := by rw [ec51]; exact up8 hI (i8_16 ⟨_, rfl⟩)
                    have hc11 : ct50 11 = ct 11 := by rw [ec51]; exact (va_up_ne _ _ (by omega)).trans hc11
                    have hc12 : ct50 12 = ct 12 := by rw [ec51]; exact (va_up_ne _ _ (by omega)).trans hc12
                    have hc13 : ct50 13 = ct 13 := by rw [ec51]; exact (va_up_ne _ _ (by omega)).trans hc13
                    have hc14 : ct50 14 = ct 14 := by rw [ec51]; exact (va_up_ne _ _ (by omega)).trans hc14
                    have hc15 : ct50 15 = ct 15 := by rw [ec51]; exact (va_up_ne _ _ (by omega)).trans hc15
                    have hs52 : ct50 10 = .inr (6, [.int ln0, .int lv0, .int lk0, .int fd0, .ref 11, .ref 12, .ref 13, .ref 14, .ref 15, .ref 16]) := by rw [ec51, va_up_ne _ _ (by omega)]; exact kp10_82
                    have hs53 : ct50 16 = .inl (g.2 0, 8, .inl (upd fN16 (Int32.toNatClampNeg v4_82) x49)) := by rw [ec51]; exact va_up_self _ _ _
                    have hfc : ∀ j, j < 8 → ((upd fN16 (Int32.toNatClampNeg v4_82) x49)) j = fsC (v4_82.toInt.toNat + 1) (v1_9, v2_9, v3_9) fL j := by
                      have h132 : y47 = fL (v4_82.toInt.toNat) := (by rw [ey47, show Int32.toNatClampNeg v4_82 = v4_82.toInt.toNat by have := z_clI (x := v4_82) (by omega); omega, j1_82 _ (by omega)]; exact if_neg (by omega))
                      refine fsC_step j1_82 (by have := z_clI (x := v4_82) (by omega); omega) ?_
                      rw [ex49, ex48, h132]
                      exact (if_neg (fun q => hst q.2)).symm
                    obtain ⟨x54, ex54⟩ : ∃ y : Int32, y = v4_82 + 1 := ⟨_, rfl⟩
                    have tx54 : x54.toInt = v4_82.toInt + 1 := by rw [ex54]; exact z_add rfl (by decide : (1 : Int32).toInt = 1) (by omega) (by omega)
                    refine dv_iinc (v := x54) (lv' := [(4, .int x54), (5, .int 0), (3, .int v3_9), (2, .int v2_9), (1, .int v1_9), (0, .ref 10)]) dX6_findSome_138 (k := 1) rfl (by rw [ex54]; rfl) (by decide) rfl ?_
                    refine dv_goto (tgt := 82) dX6_findSome_141 (by decide) ?_
                    refine dv_sub (loc2 := [(4, .int x54), (3, .int v3_9), (2, .int v2_9), (1, .int v1_9), (0, .ref 10)]) [0, 2, 3, 4, 5] rfl ?_
                    exact ih82 x54 (upd fN16 (Int32.toNatClampNeg v4_82) x49) ct50 (by omega) (by omega) (by omega) (by rw [show x54.toInt.toNat = v4_82.toInt.toNat + 1 by omega]; exact hfc) hc11 hc12 hc13 hc14 hc15 hs53 hs52 hI
                · skip
                  have c45 : x44.toInt = 0 := (z_eq rfl (by decide : (0 : Int32).toInt = 0)).mp c45
                  have hold : y43 = fL (v4_82.toInt.toNat) := (by rw [ey43, show Int32.toNatClampNeg v4_82 = v4_82.toInt.toNat by have := z_clI (x := v4_82) (by omega); omega, j1_82 _ (by omega)]; exact if_neg (by omega))
                  have hst : (v2_9 &&& fL (v4_82.toInt.toNat)).toInt = 0 := by rw [← hold, ← ex44]; omega
                  refine dv_iconst (v := 1) dX6_findSome_113 (by decide) ?_
                  refine dv_goto (tgt := 118) dX6_findSome_114 (by decide) ?_
                  refine dv_istore (lv' := [(5, .int 1), (4, .int v4_82), (3, .int v3_9), (2, .int v2_9), (1, .int v1_9), (0, .ref 10)]) dX6_findSome_118 (by decide) rfl ?_
                  refine dv_iload dX6_findSome_120 0 rfl ?_
                  refine dv_if_ne (tgt := 138) dX6_findSome_122 (by decide) (fun c55 => ?_) (fun c55 => ?_)
                  · skip
                    obtain ⟨x56, ex56⟩ : ∃ y : Int32, y = v4_82 + 1 := ⟨_, rfl⟩
                    have tx56 : x56.toInt = v4_82.toInt + 1 := by rw [ex56]; exact z_add rfl (by decide : (1 : Int32).toInt = 1) (by omega) (by omega)
                    refine dv_iinc (v := x56) (lv' := [(4, .int x56), (5, .int 1), (3, .int v3_9), (2, .int v2_9), (1, .int v1_9), (0, .ref 10)]) dX6_findSome_138 (k := 1) rfl (by rw [ex56]; rfl) (by decide) rfl ?_
                    refine dv_goto (tgt := 82) dX6_findSome_141 (by decide) ?_
                    refine dv_sub (loc2 := [(4, .int x56), (3, .int v3_9), (2, .int v2_9), (1, .int v1_9), (0, .ref 10)]) [0, 2, 3, 4, 5] rfl ?_
                    exact ih82 x56 fN16 ct18 (by omega) (by omega) (by omega) (by rw [show x56.toInt.toNat = v4_82.toInt.toNat + 1 by omega]; exact fsC_stay j1_82 (if_pos ⟨hnow, hst⟩)) hc11 hc12 hc13 hc14 hc15 hs21 kp10_82 hI
                  · skip
                    exact absurd c55 (by decide)
        exact loop82 ((8 - (0 : Int32).toInt : Int).toNat + 1) (0 : Int32) fL ct14 (by omega) (by first | omega | decide | (have hz0 : (0 : Int32).toInt = 0 := (by decide); have hz1 : (1 : Int32).toInt = 1 := (by decide); omega)) (by first | omega | decide | (have hz0 : (0 : Int32).toInt = 0 := (by decide); have hz1 : (1 : Int32).toInt = 1 := (by decide); omega)) (fun j _ => (if_neg (by rw [show (0 : Int32).toInt.toNat = 0 from rfl]; omega)).symm) hc11 hc12 hc13 hc14 hc15 kp16_9 kp10_9 hI
      · skip
        have c15 : ¬ (ln0.toInt ≤ v4_9.toInt) := fun q => c15 ((z_le rfl rfl).mpr q)
        refine dv_aload_n dX6_findSome_18 rfl 4 rfl ?_
        refine dv_get (ci := 6) (v := .int fd0) (C := RX6) (T := TX6) (N := 10) ⟨by decide, rfl⟩ kp10_9 rfl inG6 3 (by decide) mm_121 rfl dX6_findSome_19 ?_
        refine dv_iload dX6_findSome_22 0 rfl ?_
        refine dv_ishr dX6_findSome_24 ?_
        refine dv_topi (fun x57 ex57 => ?_)
        have tx57 := z_shr (x := fd0) rfl (by omega) v4_9
        rw [← ex57] at tx57
        refine dv_iconst (v := 1) dX6_findSome_25 (by decide) ?_
        refine dv_iand dX6_findSome_26 ?_
        refine dv_topi (fun x58 ex58 => ?_)
        have tx58 := z_andr (x := x57) (y := 1) (by decide : (1 : Int32).toInt = 1) (by omega)
        rw [← ex58] at tx58
        refine dv_if_ne (tgt := 73) dX6_findSome_27 (by decide) (fun c59 => ?_) (fun c59 => ?_)
        · skip
          have c59 : ¬ (x58.toInt = 0) := fun q => c59 ((z_eq rfl (by decide : (0 : Int32).toInt = 0)).mpr q)
          have hfb : ib fd0 (v4_9.toInt.toNat) = true := by
            rcases zb_ask (x := fd0) (y := v4_9) (p := v4_9.toInt.toNat) (by omega) (by omega) (by omega) (ex58.trans (by rw [ex57])) with ⟨q1, q2⟩ | ⟨q1, q2⟩
            · first | exact q2 | (exfalso; omega)
            · first | exact q2 | (exfalso; omega)
          obtain ⟨x60, ex60⟩ : ∃ y : Int32, y = v4_9 + 1 := ⟨_, rfl⟩
          have tx60 : x60.toInt = v4_9.toInt + 1 := by rw [ex60]; exact z_add rfl (by decide : (1 : Int32).toInt = 1) (by omega) (by omega)
          refine dv_iinc (v := x60) (lv' := [(4, .int x60), (3, .int v3_9), (2, .int v2_9), (1, .int v1_9), (0, .ref 10)]) dX6_findSome_73 (k := 0) rfl (by rw [ex60]; rfl) (by decide) rfl ?_
          refine dv_goto (tgt := 9) dX6_findSome_76 (by decide) ?_
          exact ih9 x60 v3_9 v2_9 v1_9 ct14 (by omega) (by omega) (by omega) (by omega) (by rw [show x60.toInt.toNat = v4_9.toInt.toNat + 1 by omega]; show _ = (if ib fd0 (v4_9.toInt.toNat) = false ∧ (bcf (fL (v4_9.toInt.toNat))).toInt = 1 then _ else _); rw [if_neg (fun q => by have q1 := q.1; rw [hfb] at q1; exact absurd q1 (by decide))]; exact j1_9) hc11 hc12 hc13 hc14 hc15 kp10_9 kp16_9 hI
        · skip
          have c59 : x58.toInt = 0 := (z_eq rfl (by decide : (0 : Int32).toInt = 0)).mp c59
          have hfb : ib fd0 (v4_9.toInt.toNat) = false := by
            rcases zb_ask (x := fd0) (y := v4_9) (p := v4_9.toInt.toNat) (by omega) (by omega) (by omega) (ex58.trans (by rw [ex57])) with ⟨q1, q2⟩ | ⟨q1, q2⟩
            · first | exact q2 | (exfalso; omega)
            · first | exact q2 | (exfalso; omega)
          refine dv_aload_n dX6_findSome_30 rfl 4 rfl ?_
          refine dv_get (ci := 6) (v := .ref 16) (C := RX6) (T := TX6) (N := 10) ⟨by decide, rfl⟩ kp10_9 rfl inG6 9 (by decide) mm_131 rfl dX6_findSome_31 ?_
          refine dv_iload dX6_findSome_34 0 rfl ?_
          refine dv_iald 0 ⟨by decide, rfl⟩ kp16_9 rfl (z_in rfl (by omega) (by omega)) dX6_findSome_36 ?_
          refine dv_topi (fun y61 ey61 => ?_)
          have hix : fL (v4_9.toInt.toNat) = y61 := by rw [ey61]; exact congrArg fL (by have := z_clI (x := v4_9) (by omega); omega)
          refine GW.callS (n := 1) (As := [.int y61]) (rest := []) (k_bce l g pe ct14 y61 hI) (fun _ h => Bool.noConfusion h) rfl rfl mm_498 mm_499 mm_62 mm_500 (by decide +kernel) ⟨Nat.le_of_ble_eq_true rfl, Nat.le_of_ble_eq_true rfl⟩ rfl (Nat.le_of_ble_eq_true rfl) dX6_findSome_37 (Nat.zero_le _) (Nat.zero_le _) rfl (fun ct62 rrr63 hBr63 hoff64 => ?_)
          obtain ⟨r63, rfl, hr63, rfl⟩ := hBr63
          refine GW.eq (S2 := [.int r63]) rfl rfl rfl ?_
          have hqr63 := hr63
          subst r63
          refine dv_iconst (v := 1) dX6_findSome_40 (by decide) ?_
          refine dv_icmp_ne (tgt := 73) dX6_findSome_41 (by decide) (fun c65 => ?_) (fun c65 => ?_)
          · skip
            have c65 : ¬ ((bcf y61).toInt = 1) := fun q => c65 ((z_eq rfl (by decide : (1 : Int32).toInt = 1)).mpr q)
            obtain ⟨x66, ex66⟩ : ∃ y : Int32, y = v4_9 + 1 := ⟨_, rfl⟩
            have tx66 : x66.toInt = v4_9.toInt + 1 := by rw [ex66]; exact z_add rfl (by decide : (1 : Int32).toInt = 1) (by omega) (by omega)
            refine dv_iinc (v := x66) (lv' := [(4, .int x66), (3, .int v3_9), (2, .int v2_9), (1, .int v1_9), (0, .ref 10)]) dX6_findSome_73 (k := 0) rfl (by rw [ex66]; rfl) (by decide) rfl ?_
            refine dv_goto (tgt := 9) dX6_findSome_76 (by decide) ?_
            exact ih9 x66 v3_9 v2_9 v1_9 ct14 (by omega) (by omega) (by omega) (by omega) (by rw [show x66.toInt.toNat = v4_9.toInt.toNat + 1 by omega]; show _ = (if ib fd0 (v4_9.toInt.toNat) = false ∧ (bcf (fL (v4_9.toInt.toNat))).toInt = 1 then _ else _); rw [if_neg (fun q => by have q2 := q.2; rw [hix] at q2; omega)]; exact j1_9) hc11 hc12 hc13 hc14 hc15 kp10_9 kp16_9 hI
          · skip
            have c65 : (bcf y61).toInt = 1 := (z_eq rfl (by decide : (1 : Int32).toInt = 1)).mp c65
            refine dv_iload_n dX6_findSome_44 rfl 1 rfl ?_
            refine dv_iconst (v := 1) dX6_findSome_45 (by decide) ?_
            refine dv_iload dX6_findSome_46 0 rfl ?_
            refine dv_ishl dX6_findSome_48 ?_
            refine dv_topi (fun x67 ex67 => ?_)
            have tx67 := z_shl1e (y := v4_9) (by omega) (by omega)
            rw [← ex67] at tx67
            have ux67 := z_shl1 (y := v4_9) rfl (by omega) (k := 7) (by decide) (by omega)
            rw [← ex67] at ux67
            refine dv_ior dX6_findSome_49 ?_
            refine dv_topi (fun x68 ex68 => ?_)
            have tx68 := z_or (x := v3_9) (y := x67) rfl rfl (k := 8) (N := 256) (by decide) (by decide) (by omega) (by omega) (by omega) (by omega)
            rw [← ex68] at tx68
            refine dv_istore_n (lv' := [(3, .int x68), (4, .int v4_9), (2, .int v2_9), (1, .int v1_9), (0, .ref 10)]) dX6_findSome_50 rfl (by decide) rfl ?_
            refine dv_iload_n dX6_findSome_51 rfl 2 rfl ?_
            refine dv_iload_n dX6_findSome_52 rfl 3 rfl ?_
            refine dv_aload_n dX6_findSome_53 rfl 4 rfl ?_
            refine dv_get (ci := 6) (v := .ref 16) (C := RX6) (T := TX6) (N := 10) ⟨by decide, rfl⟩ kp10_9 rfl inG6 9 (by decide) mm_131 rfl dX6_findSome_54 ?_
            refine dv_iload dX6_findSome_57 1 rfl ?_
            refine dv_iald 0 ⟨by decide, rfl⟩ kp16_9 rfl (z_in rfl (by omega) (by omega)) dX6_findSome_59 ?_
            refine dv_topi (fun y69 ey69 => ?_)
            refine dv_iand dX6_findSome_60 ?_
            refine dv_topi (fun x70 ex70 => ?_)
            refine dv_ior dX6_findSome_61 ?_
            refine dv_topi (fun x71 ex71 => ?_)
            refine dv_istore_n (lv' := [(2, .int x71), (3, .int x68), (4, .int v4_9), (1, .int v1_9), (0, .ref 10)]) dX6_findSome_62 rfl (by decide) rfl ?_
            refine dv_iload_n dX6_findSome_63 rfl 3 rfl ?_
            refine dv_aload_n dX6_findSome_64 rfl 4 rfl ?_
            refine dv_get (ci := 6) (v := .ref 16) (C := RX6) (T := TX6) (N := 10) ⟨by decide, rfl⟩ kp10_9 rfl inG6 9 (by decide) mm_131 rfl dX6_findSome_65 ?_
            refine dv_iload dX6_findSome_68 2 rfl ?_
            refine dv_iald 0 ⟨by decide, rfl⟩ kp16_9 rfl (z_in rfl (by omega) (by omega)) dX6_findSome_70 ?_
            refine dv_topi (fun y72 ey72 => ?_)
            refine dv_ior dX6_findSome_71 ?_
            refine dv_topi (fun x73 ex73 => ?_)
            have hfs : (x73, x71, x68) = fsA fd0 fL (v4_9.toInt.toNat + 1) := by
              show _ = (if ib fd0 (v4_9.toInt.toNat) = false ∧ (bcf (fL (v4_9.toInt.toNat))).toInt = 1 then _ else _)
              rw [if_pos ⟨hfb, by rw [hix]; omega⟩, ← j1_9, hix]
              have q1 : y69 = y61 := (ey69.trans ey61.symm)
              have q2 : y72 = y61 := (ey72.trans ey61.symm)
              rw [ex73, ex71, ex70, ex68, ex67, q1, q2, ← z_nI (x := v4_9) (k := v4_9.toInt.toNat) (by omega)]
            refine dv_istore_n (lv' := [(1, .int x73), (2, .int x71), (3, .int x68), (4, .int v4_9), (0, .ref 10)]) dX6_findSome_72 rfl (by decide) rfl ?_
            obtain ⟨x74, ex74⟩ : ∃ y : Int32, y = v4_9 + 1 := ⟨_, rfl⟩
            have tx74 : x74.toInt = v4_9.toInt + 1 := by rw [ex74]; exact z_add rfl (by decide : (1 : Int32).toInt = 1) (by omega) (by omega)
            refine dv_iinc (v := x74) (lv' := [(4, .int x74), (1, .int x73), (2, .int x71), (3, .int x68), (0, .ref 10)]) dX6_findSome_73 (k := 3) rfl (by rw [ex74]; rfl) (by decide) rfl ?_
            refine dv_goto (tgt := 9) dX6_findSome_76 (by decide) ?_
            refine dv_sub (loc2 := [(4, .int x74), (3, .int x68), (2, .int x71), (1, .int x73), (0, .ref 10)]) [0, 3, 2, 1, 4] rfl ?_
            exact ih9 x74 x68 x71 x73 ct14 (by omega) (by omega) (by omega) (by omega) (by rw [show x74.toInt.toNat = v4_9.toInt.toNat + 1 by omega]; exact hfs) hc11 hc12 hc13 hc14 hc15 kp10_9 kp16_9 hI
  exact loop9 ((8 - (0 : Int32).toInt : Int).toNat + 1) (0 : Int32) (0 : Int32) (0 : Int32) (0 : Int32) ct (by omega) (by first | omega | decide | (have hz0 : (0 : Int32).toInt = 0 := (by decide); have hz1 : (1 : Int32).toInt = 1 := (by decide); omega)) (by first | omega | decide | (have hz0 : (0 : Int32).toInt = 0 := (by decide); have hz1 : (1 : Int32).toInt = 1 := (by decide); omega)) (by first | omega | decide | (have hz0 : (0 : Int32).toInt = 0 := (by decide); have hz1 : (1 : Int32).toInt = 1 := (by decide); omega)) rfl hc11 hc12 hc13 hc14 hc15 hs10 hs13 hI
