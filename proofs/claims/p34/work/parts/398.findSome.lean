set_option maxHeartbeats 4000000 in
set_option maxRecDepth 100000 in
theorem f_findSome (l : Launch) (g : zG) (pe : Int32) (ct : Nat → va_E) (ln0 : Int32) (lv0 : Int32) (lk0 : Int32) (fd0 : Int32) (fL : Nat → Int32) (hI : Inv8 g idn pe ct) (h10 : ct 10 = .inr (6, [.int ln0, .int lv0, .int lk0, .int fd0, .ref 11, .ref 12, .ref 13, .ref 14, .ref 15, .ref 16])) (h16 : ct 16 = .inl (g.2 0, 8, .inl fL)) (hfd : 0 ≤ fd0.toInt ∧ fd0.toInt ≤ 255) : DM l g pM false yX6_findSome cX6_findSome 6 (some .boolean) ({ frames := 1, cells := 0, slots := 0, locals := 20 }) (fun (ct2 : Nat → va_E) (rr : Option Value) => ∃ (r : Int32), rr = some (.int r) ∧ (((r = if (fsA fd0 fL ln0.toInt.toNat).2.2.toInt = 0 then 0 else 1))) ∧ Inv8 g idn pe ct2 ∧ (ct2 10 = .inr (6, [.int ln0, .int lv0, .int lk0, .int (fd0 ||| (fsA fd0 fL ln0.toInt.toNat).2.2), .ref 11, .ref 12, .ref 13, .ref 14, .ref 15, .ref 16])) ∧ (∃ fL2 : Nat → Int32, ct2 16 = .inl (g.2 0, 8, .inl fL2) ∧ ∀ j, j < 8 → fL2 j = fsC ln0.toInt.toNat (fsA fd0 fL ln0.toInt.toNat) fL j) ∧ (0 ≤ (fd0 ||| (fsA fd0 fL ln0.toInt.toNat).2.2).toInt ∧ (fd0 ||| (fsA fd0 fL ln0.toInt.toNat).2.2).toInt ≤ 255) ∧ (ct2 11 = ct 11) ∧ (ct2 12 = ct 12) ∧ (ct2 13 = ct 13) ∧ (ct2 14 = ct 14) ∧ (ct2 15 = ct 15)) ct [.ref 10] := by
  refine DM.K (fun K hK => ?_)
  refine GW.met (own := RX6) (loc := [(0, .ref 10)]) (by decide) rfl rfl (Nat.le_of_ble_eq_true rfl) ?_
  have hpe0 := hI.1
  obtain ⟨lns2, liv3, lak4, fnd5, h6, h7, h8, h9, hs1⟩ := a8_10 hI
  have hs10 := h10
  cases (h10.symm.trans hs1)
  obtain ⟨f12, hs11⟩ := a8_16 hI
  have hs13 := h16
  cases (h16.symm.trans hs11)
  have hc11 : ct 11 = ct 11 := rfl
  have hc12 : ct 12 = ct 12 := rfl
  have hc13 : ct 13 = ct 13 := rfl
  have hc14 : ct 14 = ct 14 := rfl
  have hc15 : ct 15 = ct 15 := rfl
  refine dv_iconst (v := 0) dX6_findSome_0 (by decide) ?_
  refine dv_istore_n (lv' := [(1, .int 0), (0, .ref 10)]) dX6_findSome_1 rfl (by decide) rfl ?_
  refine dv_iconst (v := 0) dX6_findSome_2 (by decide) ?_
  refine dv_istore_n (lv' := [(2, .int 0), (1, .int 0), (0, .ref 10)]) dX6_findSome_3 rfl (by decide) rfl ?_
  refine dv_iconst (v := 0) dX6_findSome_4 (by decide) ?_
  refine dv_istore_n (lv' := [(3, .int 0), (2, .int 0), (1, .int 0), (0, .ref 10)]) dX6_findSome_5 rfl (by decide) rfl ?_
  refine dv_iconst (v := 0) dX6_findSome_6 (by decide) ?_
  refine dv_istore (lv' := [(4, .int 0), (3, .int 0), (2, .int 0), (1, .int 0), (0, .ref 10)]) dX6_findSome_7 (by decide) rfl ?_
  have loop9 : ∀ (n9 : Nat) (v4_9 : Int32) (v3_9 : Int32) (v2_9 : Int32) (v1_9 : Int32) (ct14 : Nat → va_E), ((8 - v4_9.toInt : Int).toNat < n9) → (0 ≤ v4_9.toInt ∧ v4_9.toInt ≤ 8) → (0 ≤ v3_9.toInt ∧ v3_9.toInt ≤ 255) → (v4_9.toInt ≤ ln0.toInt) → ((v1_9, v2_9, v3_9) = fsA fd0 fL v4_9.toInt.toNat) → (ct14 11 = ct 11) → (ct14 12 = ct 12) → (ct14 13 = ct 13) → (ct14 14 = ct 14) → (ct14 15 = ct 15) → (Inv8 g idn pe ct14) → GW l g pM pM false yX6_findSome cX6_findSome 6 (some .boolean) RX6 ({ frames := 1, cells := 0, slots := 0, locals := 20 }) K 0 0 ct14 9 [(4, .int v4_9), (3, .int v3_9), (2, .int v2_9), (1, .int v1_9), (0, .ref 10)] [] := by
    intro n9
    induction n9 with
    | zero =>
      intro v4_9 v3_9 v2_9 v1_9 ct14 hn9 b4_9 b3_9 j0_9 j1_9 hc11 hc12 hc13 hc14 hc15 hI
      exact absurd hn9 (Nat.not_lt_zero _)
    | succ n9 ih9 =>
      intro v4_9 v3_9 v2_9 v1_9 ct14 hn9 b4_9 b3_9 j0_9 j1_9 hc11 hc12 hc13 hc14 hc15 hI
      refine dv_iload dX6_findSome_9 0 rfl ?_
      refine dv_aload_n dX6_findSome_11 rfl 4 rfl ?_
      obtain ⟨lns16, liv17, lak18, fnd19, h20, h21, h22, h23, hs15⟩ := a8_10 hI
      refine dv_get (ci := 6) (v := .int lns16) (C := RX6) (T := TX6) (N := 10) ⟨by decide, rfl⟩ hs15 rfl inG6 0 (by decide) mm_115 rfl dX6_findSome_12 ?_
      refine dv_icmp_ge (tgt := 79) dX6_findSome_15 (by decide) (fun c24 => ?_) (fun c24 => ?_)
      · skip
        have c24 : lns16.toInt ≤ v4_9.toInt := (z_le rfl rfl).mp c24
        have hX : fsA fd0 fL ln0.toInt.toNat = (v1_9, v2_9, v3_9) := by rw [show ln0.toInt.toNat = v4_9.toInt.toNat by omega]; exact j2_9.symm
        refine dv_iconst (v := 0) dX6_findSome_79 (by decide) ?_
        refine dv_istore (lv' := [(4, .int 0), (3, .int v3_9), (2, .int v2_9), (1, .int v1_9), (0, .ref 10)]) dX6_findSome_80 (by decide) rfl ?_
        obtain ⟨f26, hs25⟩ := a8_16 hI
        have loop82 : ∀ (n82 : Nat) (v4_82 : Int32) (fN27 : Nat → Int32) (ct29 : Nat → va_E), ((8 - v4_82.toInt : Int).toNat < n82) → (0 ≤ v4_82.toInt ∧ v4_82.toInt ≤ 8) → (v4_82.toInt ≤ ln0.toInt) → (∀ j, j < 8 → fN27 j = fsC v4_82.toInt.toNat (v1_9, v2_9, v3_9) fL j) → (ct29 11 = ct 11) → (ct29 12 = ct 12) → (ct29 13 = ct 13) → (ct29 14 = ct 14) → (ct29 15 = ct 15) → (ct29 16 = .inl (g.2 0, 8, .inl fN27)) → (ct29 10 = .inr (6, [.int lns16, .int liv17, .int lak18, .int fnd19, .ref 11, .ref 12, .ref 13, .ref 14, .ref 15, .ref 16])) → (Inv8 g idn pe ct29) → GW l g pM pM false yX6_findSome cX6_findSome 6 (some .boolean) RX6 ({ frames := 1, cells := 0, slots := 0, locals := 20 }) K 0 0 ct29 82 [(4, .int v4_82), (3, .int v3_9), (2, .int v2_9), (1, .int v1_9), (0, .ref 10)] [] := by
          intro n82
          induction n82 with
          | zero =>
            intro v4_82 fN27 ct29 hn82 b4_82 j0_82 j1_82 hc11 hc12 hc13 hc14 hc15 hq28 kp10_82 hI
            exact absurd hn82 (Nat.not_lt_zero _)
          | succ n82 ih82 =>
            intro v4_82 fN27 ct29 hn82 b4_82 j0_82 j1_82 hc11 hc12 hc13 hc14 hc15 hq28 kp10_82 hI
            obtain ⟨f31, hs30⟩ := a8_16 hI
            have hs32 := hq28
            cases (hq28.symm.trans hs30)
            refine dv_iload dX6_findSome_82 0 rfl ?_
            refine dv_aload_n dX6_findSome_84 rfl 4 rfl ?_
            refine dv_get (ci := 6) (v := .int lns16) (C := RX6) (T := TX6) (N := 10) ⟨by decide, rfl⟩ kp10_82 rfl inG6 0 (by decide) mm_115 rfl dX6_findSome_85 ?_
            refine dv_icmp_ge (tgt := 144) dX6_findSome_88 (by decide) (fun c33 => ?_) (fun c33 => ?_)
            · skip
              have c33 : lns16.toInt ≤ v4_82.toInt := (z_le rfl rfl).mp c33
              have hX16 : ∀ j, j < 8 → fN27 j = fsC ln0.toInt.toNat (fsA fd0 fL ln0.toInt.toNat) fL j := by
                rw [hX, show ln0.toInt.toNat = v4_82.toInt.toNat by omega]
                exact j1_82
              refine dv_aload_n dX6_findSome_144 rfl 4 rfl ?_
              refine dv_dup dX6_findSome_145 rfl ?_
              refine dv_get (ci := 6) (v := .int fnd19) (C := RX6) (T := TX6) (N := 10) ⟨by decide, rfl⟩ kp10_82 rfl inG6 3 (by decide) mm_121 rfl dX6_findSome_146 ?_
              refine dv_iload_n dX6_findSome_149 rfl 1 rfl ?_
              refine dv_ior dX6_findSome_150 ?_
              refine dv_topi (fun x34 ex34 => ?_)
              have tx34 := z_or (x := fnd19) (y := v3_9) rfl rfl (k := 8) (N := 256) (by decide) (by decide) (by omega) (by omega) (by omega) (by omega)
              rw [← ex34] at tx34
              have hfd9 : x34 = fd0 ||| (fsA fd0 fL ln0.toInt.toNat).2.2 := by rw [ex34, hX]
              refine dv_put (ci := 6) (v := .int x34) (ty := .int) (C := RX6) (T := TX6) (N := 10) ⟨by decide, rfl⟩ kp10_82 rfl inG6 tyX6 tyX6_ok nmX6 3 (by decide) mm_121 rfl (by decide +kernel) (fun _ => rfl) (fun _ => rfl) (Nat.le_of_ble_eq_true rfl) dX6_findSome_151 (en := .inr (6, [.int lns16, .int liv17, .int lak18, .int x34, .ref 11, .ref 12, .ref 13, .ref 14, .ref 15, .ref 16])) rfl (fun ct35 ec36 => ?_)
              have hI : Inv8 g idn pe ct35 := by rw [ec36]; exact up8 hI (i8_10 ⟨(lns16 : Int32), (liv17 : Int32), (lak18 : Int32), (x34 : Int32), (by first | omega | decide), (by first | omega | decide), (by first | omega | decide), (by first | omega | decide), rfl⟩)
              have hc11 : ct35 11 = ct 11 := by rw [ec36]; exact (va_up_ne _ _ (by omega)).trans hc11
              have hc12 : ct35 12 = ct 12 := by rw [ec36]; exact (va_up_ne _ _ (by omega)).trans hc12
              have hc13 : ct35 13 = ct 13 := by rw [ec36]; exact (va_up_ne _ _ (by omega)).trans hc13
              have hc14 : ct35 14 = ct 14 := by rw [ec36]; exact (va_up_ne _ _ (by omega)).trans hc14
              have hc15 : ct35 15 = ct 15 := by rw [ec36]; exact (va_up_ne _ _ (by omega)).trans hc15
              have hs37 : ct35 16 = .inl (g.2 0, 8, .inl fN27) := by rw [ec36, va_up_ne _ _ (by omega)]; exact hs32
              have hs38 : ct35 10 = .inr (6, [.int lns16, .int liv17, .int lak18, .int x34, .ref 11, .ref 12, .ref 13, .ref 14, .ref 15, .ref 16]) := by rw [ec36]; exact va_up_self _ _ _
              refine dv_iload_n dX6_findSome_154 rfl 1 rfl ?_
              refine dv_if_eq (tgt := 162) dX6_findSome_155 (by decide) (fun c39 => ?_) (fun c39 => ?_)
              · skip
                have c39 : v3_9.toInt = 0 := (z_eq rfl (by decide : (0 : Int32).toInt = 0)).mp c39
                refine dv_iconst (v := 0) dX6_findSome_162 (by decide) ?_
                have q40 : (0 : Int32).toInt = 0 := by decide
                exact dv_zret dX6_findSome_163 rfl rfl (by first | exact Nat.zero_le _ | decide) (by first | exact Nat.zero_le _ | decide) (by subst hK; exact ⟨0, rfl, (by rw [hX]; exact (if_pos (by omega)).symm), hI, (by rw [← hfd9]; exact hs38), (⟨_, hs37, hX16⟩), (by rw [← hfd9]; omega), (by assumption), (by assumption), (by assumption), (by assumption), (by assumption)⟩)
              · skip
                have c39 : ¬ (v3_9.toInt = 0) := fun q => c39 ((z_eq rfl (by decide : (0 : Int32).toInt = 0)).mpr q)
                refine dv_iconst (v := 1) dX6_findSome_158 (by decide) ?_
                refine dv_goto (tgt := 163) dX6_findSome_159 (by decide) ?_
                have q41 : (1 : Int32).toInt = 1 := by decide
                exact dv_zret dX6_findSome_163 rfl rfl (by first | exact Nat.zero_le _ | decide) (by first | exact Nat.zero_le _ | decide) (by subst hK; exact ⟨1, rfl, (by rw [hX]; exact (if_neg (by omega)).symm), hI, (by rw [← hfd9]; exact hs38), (⟨_, hs37, hX16⟩), (by rw [← hfd9]; omega), (by assumption), (by assumption), (by assumption), (by assumption), (by assumption)⟩)
            · skip
              have c33 : ¬ (lns16.toInt ≤ v4_82.toInt) := fun q => c33 ((z_le rfl rfl).mpr q)
              refine dv_iload_n dX6_findSome_91 rfl 1 rfl ?_
              refine dv_iload dX6_findSome_92 0 rfl ?_
              refine dv_ishr dX6_findSome_94 ?_
              refine dv_topi (fun x42 ex42 => ?_)
              have tx42 := z_shr (x := v3_9) rfl (by omega) v4_82
              rw [← ex42] at tx42
              refine dv_iconst (v := 1) dX6_findSome_95 (by decide) ?_
              refine dv_iand dX6_findSome_96 ?_
              refine dv_topi (fun x43 ex43 => ?_)
              have tx43 := z_andr (x := x42) (y := 1) (by decide : (1 : Int32).toInt = 1) (by omega)
              rw [← ex43] at tx43
              refine dv_iconst (v := 1) dX6_findSome_97 (by decide) ?_
              refine dv_icmp_ne (tgt := 117) dX6_findSome_98 (by decide) (fun c44 => ?_) (fun c44 => ?_)
              · skip
                have c44 : ¬ (x43.toInt = 1) := fun q => c44 ((z_eq rfl (by decide : (1 : Int32).toInt = 1)).mpr q)
                have hnow : ib v3_9 (v4_82.toInt.toNat) = false := by
                  rcases zb_ask (x := v3_9) (y := v4_82) (p := v4_82.toInt.toNat) (by omega) (by omega) (by omega) (ex43.trans (by rw [ex42])) with ⟨q1, q2⟩ | ⟨q1, q2⟩
                  · first | exact q2 | (exfalso; omega)
                  · first | exact q2 | (exfalso; omega)
                refine dv_iconst (v := 0) dX6_findSome_117 (by decide) ?_
                refine dv_istore (lv' := [(5, .int 0), (4, .int v4_82), (3, .int v3_9), (2, .int v2_9), (1, .int v1_9), (0, .ref 10)]) dX6_findSome_118 (by decide) rfl ?_
                refine dv_iload dX6_findSome_120 0 rfl ?_
                refine dv_if_ne (tgt := 138) dX6_findSome_122 (by decide) (fun c45 => ?_) (fun c45 => ?_)
                · skip
                  exact absurd c45 (by decide)
                · skip
                  refine dv_aload_n dX6_findSome_125 rfl 5 rfl ?_
                  refine dv_get (ci := 6) (v := .ref 16) (C := RX6) (T := TX6) (N := 10) ⟨by decide, rfl⟩ kp10_82 rfl inG6 9 (by decide) mm_131 rfl dX6_findSome_126 ?_
                  refine dv_iload dX6_findSome_129 1 rfl ?_
                  refine dv_dup2_11 dX6_findSome_131 rfl rfl ?_
                  refine dv_iald 0 ⟨by decide, rfl⟩ hs32 rfl (z_in rfl (by omega) (by omega)) dX6_findSome_132 ?_
                  refine dv_topi (fun y46 ey46 => ?_)
                  refine dv_iload_n dX6_findSome_133 rfl 4 rfl ?_
                  refine dv_iconst (v := (-1)) dX6_findSome_134 (by decide) ?_
                  refine dv_ixor dX6_findSome_135 ?_
                  refine dv_topi (fun x47 ex47 => ?_)
                  refine dv_iand dX6_findSome_136 ?_
                  refine dv_topi (fun x48 ex48 => ?_)
                  refine dv_iast 0 ⟨by decide, rfl⟩ hs32 rfl (z_in rfl (by omega) (by omega)) dX6_findSome_137 (en := .inl (g.2 0, 8, .inl (upd fN27 (Int32.toNatClampNeg v4_82) x48))) rfl (fun ct49 ec50 => ?_)
                  have hI : Inv8 g idn pe ct49 := by rw [ec50]; exact up8 hI (i8_16 ⟨_, rfl⟩)
                  have hc11 : ct49 11 = ct 11 := by rw [ec50]; exact (va_up_ne _ _ (by omega)).trans hc11
                  have hc12 : ct49 12 = ct 12 := by rw [ec50]; exact (va_up_ne _ _ (by omega)).trans hc12
                  have hc13 : ct49 13 = ct 13 := by rw [ec50]; exact (va_up_ne _ _ (by omega)).trans hc13
                  have hc14 : ct49 14 = ct 14 := by rw [ec50]; exact (va_up_ne _ _ (by omega)).trans hc14
                  have hc15 : ct49 15 = ct 15 := by rw [ec50]; exact (va_up_ne _ _ (by omega)).trans hc15
                  have hs51 : ct49 10 = .inr (6, [.int lns16, .int liv17, .int lak18, .int fnd19, .ref 11, .ref 12, .ref 13, .ref 14, .ref 15, .ref 16]) := by rw [ec50, va_up_ne _ _ (by omega)]; exact kp10_82
                  have hs52 : ct49 16 = .inl (g.2 0, 8, .inl (upd fN27 (Int32.toNatClampNeg v4_82) x48)) := by rw [ec50]; exact va_up_self _ _ _
                  have hfc : ∀ j, j < 8 → ((upd fN27 (Int32.toNatClampNeg v4_82) x48)) j = fsC (v4_82.toInt.toNat + 1) (v1_9, v2_9, v3_9) fL j := by
                    have h132 : y46 = fL (v4_82.toInt.toNat) := (by rw [ey46, show Int32.toNatClampNeg v4_82 = v4_82.toInt.toNat by have := z_clI (x := v4_82) (by omega); omega, j1_82 _ (by omega)]; exact if_neg (by omega))
                    refine fsC_step j1_82 (by have := z_clI (x := v4_82) (by omega); omega) ?_
                    rw [ex48, ex47, h132]
                    exact (if_neg (fun q => by have q1 := q.1; rw [hnow] at q1; exact absurd q1 (by decide))).symm
                  obtain ⟨x53, ex53⟩ : ∃ y : Int32, y = v4_82 + 1 := ⟨_, rfl⟩
                  have tx53 : x53.toInt = v4_82.toInt + 1 := by rw [ex53]; exact z_add rfl (by decide : (1 : Int32).toInt = 1) (by omega) (by omega)
                  refine dv_iinc (v := x53) (lv' := [(4, .int x53), (5, .int 0), (3, .int v3_9), (2, .int v2_9), (1, .int v1_9), (0, .ref 10)]) dX6_findSome_138 (k := 1) rfl (by rw [ex53]; rfl) (by decide) rfl ?_
                  refine dv_goto (tgt := 82) dX6_findSome_141 (by decide) ?_
                  refine dv_sub (loc2 := [(4, .int x53), (3, .int v3_9), (2, .int v2_9), (1, .int v1_9), (0, .ref 10)]) [0, 2, 3, 4, 5] rfl ?_
                  exact ih82 x53 (upd fN27 (Int32.toNatClampNeg v4_82) x48) ct49 (by omega) (by omega) (by omega) (by rw [show x53.toInt.toNat = v4_82.toInt.toNat + 1 by omega]; exact hfc) hc11 hc12 hc13 hc14 hc15 hs52 hs51 hI
              · skip
                have c44 : x43.toInt = 1 := (z_eq rfl (by decide : (1 : Int32).toInt = 1)).mp c44
                have hnow : ib v3_9 (v4_82.toInt.toNat) = true := by
                  rcases zb_ask (x := v3_9) (y := v4_82) (p := v4_82.toInt.toNat) (by omega) (by omega) (by omega) (ex43.trans (by rw [ex42])) with ⟨q1, q2⟩ | ⟨q1, q2⟩
                  · first | exact q2 | (exfalso; omega)
                  · first | exact q2 | (exfalso; omega)
                refine dv_iload_n dX6_findSome_101 rfl 2 rfl ?_
                refine dv_aload_n dX6_findSome_102 rfl 4 rfl ?_
                refine dv_get (ci := 6) (v := .ref 16) (C := RX6) (T := TX6) (N := 10) ⟨by decide, rfl⟩ kp10_82 rfl inG6 9 (by decide) mm_131 rfl dX6_findSome_103 ?_
                refine dv_iload dX6_findSome_106 0 rfl ?_
                refine dv_iald 0 ⟨by decide, rfl⟩ hs32 rfl (z_in rfl (by omega) (by omega)) dX6_findSome_108 ?_
                refine dv_topi (fun y54 ey54 => ?_)
                refine dv_iand dX6_findSome_109 ?_
                refine dv_topi (fun x55 ex55 => ?_)
                refine dv_if_ne (tgt := 117) dX6_findSome_110 (by decide) (fun c56 => ?_) (fun c56 => ?_)
                · skip
                  have c56 : ¬ (x55.toInt = 0) := fun q => c56 ((z_eq rfl (by decide : (0 : Int32).toInt = 0)).mpr q)
                  have hold : y54 = fL (v4_82.toInt.toNat) := (by rw [ey54, show Int32.toNatClampNeg v4_82 = v4_82.toInt.toNat by have := z_clI (x := v4_82) (by omega); omega, j1_82 _ (by omega)]; exact if_neg (by omega))
                  have hst : ¬ (v2_9 &&& fL (v4_82.toInt.toNat)).toInt = 0 := by rw [← hold, ← ex55]; omega
                  refine dv_iconst (v := 0) dX6_findSome_117 (by decide) ?_
                  refine dv_istore (lv' := [(5, .int 0), (4, .int v4_82), (3, .int v3_9), (2, .int v2_9), (1, .int v1_9), (0, .ref 10)]) dX6_findSome_118 (by decide) rfl ?_
                  refine dv_iload dX6_findSome_120 0 rfl ?_
                  refine dv_if_ne (tgt := 138) dX6_findSome_122 (by decide) (fun c57 => ?_) (fun c57 => ?_)
                  · skip
                    exact absurd c57 (by decide)
                  · skip
                    refine dv_aload_n dX6_findSome_125 rfl 5 rfl ?_
                    refine dv_get (ci := 6) (v := .ref 16) (C := RX6) (T := TX6) (N := 10) ⟨by decide, rfl⟩ kp10_82 rfl inG6 9 (by decide) mm_131 rfl dX6_findSome_126 ?_
                    refine dv_iload dX6_findSome_129 1 rfl ?_
                    refine dv_dup2_11 dX6_findSome_131 rfl rfl ?_
                    refine dv_iald 0 ⟨by decide, rfl⟩ hs32 rfl (z_in rfl (by omega) (by omega)) dX6_findSome_132 ?_
                    refine dv_topi (fun y58 ey58 => ?_)
                    refine dv_iload_n dX6_findSome_133 rfl 4 rfl ?_
                    refine dv_iconst (v := (-1)) dX6_findSome_134 (by decide) ?_
                    refine dv_ixor dX6_findSome_135 ?_
                    refine dv_topi (fun x59 ex59 => ?_)
                    refine dv_iand dX6_findSome_136 ?_
                    refine dv_topi (fun x60 ex60 => ?_)
                    refine dv_iast 0 ⟨by decide, rfl⟩ hs32 rfl (z_in rfl (by omega) (by omega)) dX6_findSome_137 (en := .inl (g.2 0, 8, .inl (upd fN27 (Int32.toNatClampNeg v4_82) x60))) rfl (fun ct61 ec62 => ?_)
                    have hI : Inv8 g idn pe ct61 := by rw [ec62]; exact up8 hI (i8_16 ⟨_, rfl⟩)
                    have hc11 : ct61 11 = ct 11 := by rw [ec62]; exact (va_up_ne _ _ (by omega)).trans hc11
                    have hc12 : ct61 12 = ct 12 := by rw [ec62]; exact (va_up_ne _ _ (by omega)).trans hc12
                    have hc13 : ct61 13 = ct 13 := by rw [ec62]; exact (va_up_ne _ _ (by omega)).trans hc13
                    have hc14 : ct61 14 = ct 14 := by rw [ec62]; exact (va_up_ne _ _ (by omega)).trans hc14
                    have hc15 : ct61 15 = ct 15 := by rw [ec62]; exact (va_up_ne _ _ (by omega)).trans hc15
                    have hs63 : ct61 10 = .inr (6, [.int lns16, .int liv17, .int lak18, .int fnd19, .ref 11, .ref 12, .ref 13, .ref 14, .ref 15, .ref 16]) := by rw [ec62, va_up_ne _ _ (by omega)]; exact kp10_82
                    have hs64 : ct61 16 = .inl (g.2 0, 8, .inl (upd fN27 (Int32.toNatClampNeg v4_82) x60)) := by rw [ec62]; exact va_up_self _ _ _
                    have hfc : ∀ j, j < 8 → ((upd fN27 (Int32.toNatClampNeg v4_82) x60)) j = fsC (v4_82.toInt.toNat + 1) (v1_9, v2_9, v3_9) fL j := by
                      have h132 : y58 = fL (v4_82.toInt.toNat) := (by rw [ey58, show Int32.toNatClampNeg v4_82 = v4_82.toInt.toNat by have := z_clI (x := v4_82) (by omega); omega, j1_82 _ (by omega)]; exact if_neg (by omega))
                      refine fsC_step j1_82 (by have := z_clI (x := v4_82) (by omega); omega) ?_
                      rw [ex60, ex59, h132]
                      exact (if_neg (fun q => hst q.2)).symm
                    obtain ⟨x65, ex65⟩ : ∃ y : Int32, y = v4_82 + 1 := ⟨_, rfl⟩
                    have tx65 : x65.toInt = v4_82.toInt + 1 := by rw [ex65]; exact z_add rfl (by decide : (1 : Int32).toInt = 1) (by omega) (by omega)
                    refine dv_iinc (v := x65) (lv' := [(4, .int x65), (5, .int 0), (3, .int v3_9), (2, .int v2_9), (1, .int v1_9), (0, .ref 10)]) dX6_findSome_138 (k := 1) rfl (by rw [ex65]; rfl) (by decide) rfl ?_
                    refine dv_goto (tgt := 82) dX6_findSome_141 (by decide) ?_
                    refine dv_sub (loc2 := [(4, .int x65), (3, .int v3_9), (2, .int v2_9), (1, .int v1_9), (0, .ref 10)]) [0, 2, 3, 4, 5] rfl ?_
                    exact ih82 x65 (upd fN27 (Int32.toNatClampNeg v4_82) x60) ct61 (by omega) (by omega) (by omega) (by rw [show x65.toInt.toNat = v4_82.toInt.toNat + 1 by omega]; exact hfc) hc11 hc12 hc13 hc14 hc15 hs64 hs63 hI
                · skip
                  have c56 : x55.toInt = 0 := (z_eq rfl (by decide : (0 : Int32).toInt = 0)).mp c56
                  have hold : y54 = fL (v4_82.toInt.toNat) := (by rw [ey54, show Int32.toNatClampNeg v4_82 = v4_82.toInt.toNat by have := z_clI (x := v4_82) (by omega); omega, j1_82 _ (by omega)]; exact if_neg (by omega))
                  have hst : (v2_9 &&& fL (v4_82.toInt.toNat)).toInt = 0 := by rw [← hold, ← ex55]; omega
                  refine dv_iconst (v := 1) dX6_findSome_113 (by decide) ?_
                  refine dv_goto (tgt := 118) dX6_findSome_114 (by decide) ?_
                  refine dv_istore (lv' := [(5, .int 1), (4, .int v4_82), (3, .int v3_9), (2, .int v2_9), (1, .int v1_9), (0, .ref 10)]) dX6_findSome_118 (by decide) rfl ?_
                  refine dv_iload dX6_findSome_120 0 rfl ?_
                  refine dv_if_ne (tgt := 138) dX6_findSome_122 (by decide) (fun c66 => ?_) (fun c66 => ?_)
                  · skip
                    obtain ⟨x67, ex67⟩ : ∃ y : Int32, y = v4_82 + 1 := ⟨_, rfl⟩
                    have tx67 : x67.toInt = v4_82.toInt + 1 := by rw [ex67]; exact z_add rfl (by decide : (1 : Int32).toInt = 1) (by omega) (by omega)
                    refine dv_iinc (v := x67) (lv' := [(4, .int x67), (5, .int 1), (3, .int v3_9), (2, .int v2_9), (1, .int v1_9), (0, .ref 10)]) dX6_findSome_138 (k := 1) rfl (by rw [ex67]; rfl) (by decide) rfl ?_
                    refine dv_goto (tgt := 82) dX6_findSome_141 (by decide) ?_
                    refine dv_sub (loc2 := [(4, .int x67), (3, .int v3_9), (2, .int v2_9), (1, .int v1_9), (0, .ref 10)]) [0, 2, 3, 4, 5] rfl ?_
                    exact ih82 x67 fN27 ct29 (by omega) (by omega) (by omega) (by rw [show x67.toInt.toNat = v4_82.toInt.toNat + 1 by omega]; exact fsC_stay j1_82 (if_pos ⟨hnow, hst⟩)) hc11 hc12 hc13 hc14 hc15 hs32 kp10_82 hI
                  · skip
                    exact absurd c66 (by decide)
        exact loop82 ((8 - (0 : Int32).toInt : Int).toNat + 1) (0 : Int32) f26 ct14 (by omega) (by first | omega | decide | (have hz0 : (0 : Int32).toInt = 0 := (by decide); have hz1 : (1 : Int32).toInt = 1 := (by decide); omega)) (by first | omega | decide | (have hz0 : (0 : Int32).toInt = 0 := (by decide); have hz1 : (1 : Int32).toInt = 1 := (by decide); omega)) (fun j _ => (if_neg (by rw [show (0 : Int32).toInt.toNat = 0 from rfl]; omega)).symm) hc11 hc12 hc13 hc14 hc15 hs25 hs15 hI
      · skip
        have c24 : ¬ (lns16.toInt ≤ v4_9.toInt) := fun q => c24 ((z_le rfl rfl).mpr q)
        refine dv_aload_n dX6_findSome_18 rfl 4 rfl ?_
        refine dv_get (ci := 6) (v := .int fnd19) (C := RX6) (T := TX6) (N := 10) ⟨by decide, rfl⟩ hs15 rfl inG6 3 (by decide) mm_121 rfl dX6_findSome_19 ?_
        refine dv_iload dX6_findSome_22 0 rfl ?_
        refine dv_ishr dX6_findSome_24 ?_
        refine dv_topi (fun x68 ex68 => ?_)
        have tx68 := z_shr (x := fnd19) rfl (by omega) v4_9
        rw [← ex68] at tx68
        refine dv_iconst (v := 1) dX6_findSome_25 (by decide) ?_
        refine dv_iand dX6_findSome_26 ?_
        refine dv_topi (fun x69 ex69 => ?_)
        have tx69 := z_andr (x := x68) (y := 1) (by decide : (1 : Int32).toInt = 1) (by omega)
        rw [← ex69] at tx69
        refine dv_if_ne (tgt := 73) dX6_findSome_27 (by decide) (fun c70 => ?_) (fun c70 => ?_)
        · skip
          have c70 : ¬ (x69.toInt = 0) := fun q => c70 ((z_eq rfl (by decide : (0 : Int32).toInt = 0)).mpr q)
          have hfb : ib fnd19 (v4_9.toInt.toNat) = true := by
            rcases zb_ask (x := fnd19) (y := v4_9) (p := v4_9.toInt.toNat) (by omega) (by omega) (by omega) (ex69.trans (by rw [ex68])) with ⟨q1, q2⟩ | ⟨q1, q2⟩
            · first | exact q2 | (exfalso; omega)
            · first | exact q2 | (exfalso; omega)
          obtain ⟨x71, ex71⟩ : ∃ y : Int32, y = v4_9 + 1 := ⟨_, rfl⟩
          have tx71 : x71.toInt = v4_9.toInt + 1 := by rw [ex71]; exact z_add rfl (by decide : (1 : Int32).toInt = 1) (by omega) (by omega)
          refine dv_iinc (v := x71) (lv' := [(4, .int x71), (3, .int v3_9), (2, .int v2_9), (1, .int v1_9), (0, .ref 10)]) dX6_findSome_73 (k := 0) rfl (by rw [ex71]; rfl) (by decide) rfl ?_
          refine dv_goto (tgt := 9) dX6_findSome_76 (by decide) ?_
          exact ih9 x71 v3_9 v2_9 v1_9 ct14 (by omega) (by omega) (by omega) (by omega) (by rw [show x71.toInt.toNat = v4_9.toInt.toNat + 1 by omega]; show _ = (if ib fd0 (v4_9.toInt.toNat) = false ∧ (bcf (fL (v4_9.toInt.toNat))).toInt = 1 then _ else _); rw [if_neg (fun q => by have q1 := q.1; rw [hfb] at q1; exact absurd q1 (by decide))]; exact j2_9) hc11 hc12 hc13 hc14 hc15 hI
        · skip
          have c70 : x69.toInt = 0 := (z_eq rfl (by decide : (0 : Int32).toInt = 0)).mp c70
          have hfb : ib fnd19 (v4_9.toInt.toNat) = false := by
            rcases zb_ask (x := fnd19) (y := v4_9) (p := v4_9.toInt.toNat) (by omega) (by omega) (by omega) (ex69.trans (by rw [ex68])) with ⟨q1, q2⟩ | ⟨q1, q2⟩
            · first | exact q2 | (exfalso; omega)
            · first | exact q2 | (exfalso; omega)
          refine dv_aload_n dX6_findSome_30 rfl 4 rfl ?_
          refine dv_get (ci := 6) (v := .ref 16) (C := RX6) (T := TX6) (N := 10) ⟨by decide, rfl⟩ hs15 rfl inG6 9 (by decide) mm_131 rfl dX6_findSome_31 ?_
          refine dv_iload dX6_findSome_34 0 rfl ?_
          obtain ⟨f73, hs72⟩ := a8_16 hI
          refine dv_iald 0 ⟨by decide, rfl⟩ hs72 rfl (z_in rfl (by omega) (by omega)) dX6_findSome_36 ?_
          refine dv_topi (fun y74 ey74 => ?_)
          have hix : fL (v4_9.toInt.toNat) = y74 := by rw [ey74]; exact congrArg fL (by have := z_clI (x := v4_9) (by omega); omega)
          refine GW.callS (n := 1) (As := [.int y74]) (rest := []) (k_bce l g pe ct14 y74 hI) (fun _ h => Bool.noConfusion h) rfl rfl mm_498 mm_499 mm_62 mm_500 (by decide +kernel) ⟨Nat.le_of_ble_eq_true rfl, Nat.le_of_ble_eq_true rfl⟩ rfl (Nat.le_of_ble_eq_true rfl) dX6_findSome_37 (Nat.zero_le _) (Nat.zero_le _) rfl (fun ct75 rrr76 hBr76 hoff77 => ?_)
          obtain ⟨r76, rfl, hr76, rfl⟩ := hBr76
          refine GW.eq (S2 := [.int r76]) rfl rfl rfl ?_
          have hqr76 := hr76
          subst r76
          refine dv_iconst (v := 1) dX6_findSome_40 (by decide) ?_
          refine dv_icmp_ne (tgt := 73) dX6_findSome_41 (by decide) (fun c78 => ?_) (fun c78 => ?_)
          · skip
            have c78 : ¬ ((bcf y74).toInt = 1) := fun q => c78 ((z_eq rfl (by decide : (1 : Int32).toInt = 1)).mpr q)
            obtain ⟨x79, ex79⟩ : ∃ y : Int32, y = v4_9 + 1 := ⟨_, rfl⟩
            have tx79 : x79.toInt = v4_9.toInt + 1 := by rw [ex79]; exact z_add rfl (by decide : (1 : Int32).toInt = 1) (by omega) (by omega)
            refine dv_iinc (v := x79) (lv' := [(4, .int x79), (3, .int v3_9), (2, .int v2_9), (1, .int v1_9), (0, .ref 10)]) dX6_findSome_73 (k := 0) rfl (by rw [ex79]; rfl) (by decide) rfl ?_
            refine dv_goto (tgt := 9) dX6_findSome_76 (by decide) ?_
            exact ih9 x79 v3_9 v2_9 v1_9 ct14 (by omega) (by omega) (by omega) (by omega) (by rw [show x79.toInt.toNat = v4_9.toInt.toNat + 1 by omega]; show _ = (if ib fd0 (v4_9.toInt.toNat) = false ∧ (bcf (fL (v4_9.toInt.toNat))).toInt = 1 then _ else _); rw [if_neg (fun q => by have q2 := q.2; rw [hix] at q2; omega)]; exact j2_9) hc11 hc12 hc13 hc14 hc15 hI
          · skip
            have c78 : (bcf y74).toInt = 1 := (z_eq rfl (by decide : (1 : Int32).toInt = 1)).mp c78
            refine dv_iload_n dX6_findSome_44 rfl 1 rfl ?_
            refine dv_iconst (v := 1) dX6_findSome_45 (by decide) ?_
            refine dv_iload dX6_findSome_46 0 rfl ?_
            refine dv_ishl dX6_findSome_48 ?_
            refine dv_topi (fun x80 ex80 => ?_)
            have tx80 := z_shl1e (y := v4_9) (by omega) (by omega)
            rw [← ex80] at tx80
            refine dv_ior dX6_findSome_49 ?_
            refine dv_topi (fun x81 ex81 => ?_)
            have tx81 := z_or (x := v3_9) (y := x80) rfl rfl (k := 8) (N := 256) (by decide) (by decide) (by omega) (by omega) (by omega) (by omega)
            rw [← ex81] at tx81
            refine dv_istore_n (lv' := [(3, .int x81), (4, .int v4_9), (2, .int v2_9), (1, .int v1_9), (0, .ref 10)]) dX6_findSome_50 rfl (by decide) rfl ?_
            refine dv_iload_n dX6_findSome_51 rfl 2 rfl ?_
            refine dv_iload_n dX6_findSome_52 rfl 3 rfl ?_
            refine dv_aload_n dX6_findSome_53 rfl 4 rfl ?_
            refine dv_get (ci := 6) (v := .ref 16) (C := RX6) (T := TX6) (N := 10) ⟨by decide, rfl⟩ hs15 rfl inG6 9 (by decide) mm_131 rfl dX6_findSome_54 ?_
            refine dv_iload dX6_findSome_57 1 rfl ?_
            refine dv_iald 0 ⟨by decide, rfl⟩ hs72 rfl (z_in rfl (by omega) (by omega)) dX6_findSome_59 ?_
            refine dv_topi (fun y82 ey82 => ?_)
            refine dv_iand dX6_findSome_60 ?_
            refine dv_topi (fun x83 ex83 => ?_)
            refine dv_ior dX6_findSome_61 ?_
            refine dv_topi (fun x84 ex84 => ?_)
            refine dv_istore_n (lv' := [(2, .int x84), (3, .int x81), (4, .int v4_9), (1, .int v1_9), (0, .ref 10)]) dX6_findSome_62 rfl (by decide) rfl ?_
            refine dv_iload_n dX6_findSome_63 rfl 3 rfl ?_
            refine dv_aload_n dX6_findSome_64 rfl 4 rfl ?_
            refine dv_get (ci := 6) (v := .ref 16) (C := RX6) (T := TX6) (N := 10) ⟨by decide, rfl⟩ hs15 rfl inG6 9 (by decide) mm_131 rfl dX6_findSome_65 ?_
            refine dv_iload dX6_findSome_68 2 rfl ?_
            refine dv_iald 0 ⟨by decide, rfl⟩ hs72 rfl (z_in rfl (by omega) (by omega)) dX6_findSome_70 ?_
            refine dv_topi (fun y85 ey85 => ?_)
            refine dv_ior dX6_findSome_71 ?_
            refine dv_topi (fun x86 ex86 => ?_)
            have hfs : (x86, x84, x81) = fsA fd0 fL (v4_9.toInt.toNat + 1) := by
              show _ = (if ib fd0 (v4_9.toInt.toNat) = false ∧ (bcf (fL (v4_9.toInt.toNat))).toInt = 1 then _ else _)
              rw [if_pos ⟨hfb, by rw [hix]; omega⟩, ← j2_9, hix]
              have q1 : y82 = y74 := (ey82.trans ey74.symm)
              have q2 : y85 = y74 := (ey85.trans ey74.symm)
              rw [ex86, ex84, ex83, ex81, ex80, q1, q2, ← z_nI (x := v4_9) (k := v4_9.toInt.toNat) (by omega)]
            refine dv_istore_n (lv' := [(1, .int x86), (2, .int x84), (3, .int x81), (4, .int v4_9), (0, .ref 10)]) dX6_findSome_72 rfl (by decide) rfl ?_
            obtain ⟨x87, ex87⟩ : ∃ y : Int32, y = v4_9 + 1 := ⟨_, rfl⟩
            have tx87 : x87.toInt = v4_9.toInt + 1 := by rw [ex87]; exact z_add rfl (by decide : (1 : Int32).toInt = 1) (by omega) (by omega)
            refine dv_iinc (v := x87) (lv' := [(4, .int x87), (1, .int x86), (2, .int x84), (3, .int x81), (0, .ref 10)]) dX6_findSome_73 (k := 3) rfl (by rw [ex87]; rfl) (by decide) rfl ?_
            refine dv_goto (tgt := 9) dX6_findSome_76 (by decide) ?_
            refine dv_sub (loc2 := [(4, .int x87), (3, .int x81), (2, .int x84), (1, .int x86), (0, .ref 10)]) [0, 3, 2, 1, 4] rfl ?_
            exact ih9 x87 x81 x84 x86 ct14 (by omega) (by omega) (by omega) (by omega) (by rw [show x87.toInt.toNat = v4_9.toInt.toNat + 1 by omega]; exact hfs) hc11 hc12 hc13 hc14 hc15 hI
  exact loop9 ((8 - (0 : Int32).toInt : Int).toNat + 1) (0 : Int32) (0 : Int32) (0 : Int32) (0 : Int32) ct (by omega) (by first | omega | decide | (have hz0 : (0 : Int32).toInt = 0 := (by decide); have hz1 : (1 : Int32).toInt = 1 := (by decide); omega)) (by first | omega | decide | (have hz0 : (0 : Int32).toInt = 0 := (by decide); have hz1 : (1 : Int32).toInt = 1 := (by decide); omega)) (by first | omega | decide | (have hz0 : (0 : Int32).toInt = 0 := (by decide); have hz1 : (1 : Int32).toInt = 1 := (by decide); omega)) rfl hc11 hc12 hc13 hc14 hc15 hI
