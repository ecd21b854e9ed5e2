set_option maxHeartbeats 4000000 in
set_option maxRecDepth 100000 in
theorem f_number (l : Launch) (g : zG) (pe : Int32) (ct : Nat → va_E) (ln0 : Int32) (lv0 : Int32) (lk0 : Int32) (fd0 : Int32) (fF : Nat → Int32) (hI : Inv8 g idn pe ct) (h10 : ct 10 = .inr (6, [.int ln0, .int lv0, .int lk0, .int fd0, .ref 11, .ref 12, .ref 13, .ref 14, .ref 15, .ref 16])) (h12 : ct 12 = .inl (g.2 0, 8, .inl fF)) (hlv : lv0.toInt < ((2 ^ ln0.toInt.toNat : Nat) : Int)) : DM l g pM false yX6_number cX6_number 4 (some .long) ({ frames := 1, cells := 0, slots := 0, locals := 23 }) (fun (ct2 : Nat → va_E) (rr : Option Value) => ∃ (r : Int64), rr = some (.long r) ∧ (((r = i64 (gvP (fun z9 q9 => ib (fF z9) q9) ln0.toInt.toNat 16 lv0.toInt.toNat)))) ∧ Inv8 g idn pe ct2 ∧ (ct2 10 = ct 10) ∧ (ct2 11 = ct 11) ∧ (ct2 12 = ct 12) ∧ (ct2 13 = ct 13) ∧ (ct2 14 = ct 14) ∧ (ct2 16 = ct 16)) ct [.ref 10] := by
  refine DM.K (fun K hK => ?_)
  refine GW.met (own := RX6) (loc := [(0, .ref 10)]) (by decide) rfl rfl (Nat.le_of_ble_eq_true rfl) ?_
  have hpe0 := hI.1
  obtain ⟨lns2, liv3, lak4, fnd5, h6, h7, h8, h9, hs1⟩ := a8_10 hI
  have hs10 := h10
  cases (h10.symm.trans hs1)
  obtain ⟨f12, hp13, hs11⟩ := a8_12 hI
  have hs14 := h12
  cases (h12.symm.trans hs11)
  have hc10 : ct 10 = ct 10 := rfl
  have hc11 : ct 11 = ct 11 := rfl
  have hc12 : ct 12 = ct 12 := rfl
  have hc13 : ct 13 = ct 13 := rfl
  have hc14 : ct 14 = ct 14 := rfl
  have hc16 : ct 16 = ct 16 := rfl
  have h2le := hp_le ln0.toInt.toNat (by omega)
  refine dv_iconst (v := 1) dX6_number_0 (by decide) ?_
  refine dv_aload_n dX6_number_1 rfl 0 rfl ?_
  refine dv_get (ci := 6) (v := .int ln0) (C := RX6) (T := TX6) (N := 10) ⟨by decide, rfl⟩ hs10 rfl inG6 0 (by decide) mm_115 rfl dX6_number_2 ?_
  refine dv_ishl dX6_number_5 ?_
  refine dv_topi (fun x15 ex15 => ?_)
  have tx15 := z_shl1e (y := ln0) (by omega) (by omega)
  rw [← ex15] at tx15
  have ux15 := z_shl1 (y := ln0) rfl (by omega) (k := 8) (by decide) (by omega)
  rw [← ex15] at ux15
  refine dv_istore_n (lv' := [(1, .int x15), (0, .ref 10)]) dX6_number_6 rfl (by decide) rfl ?_
  refine dv_iconst (v := 0) dX6_number_7 (by decide) ?_
  refine dv_istore_n (lv' := [(2, .int 0), (1, .int x15), (0, .ref 10)]) dX6_number_8 rfl (by decide) rfl ?_
  obtain ⟨f17, hs16⟩ := a8_15 hI
  have loop9 : ∀ (n9 : Nat) (v2_9 : Int32) (fV18 : Nat → Int64) (ct20 : Nat → va_E), ((256 - v2_9.toInt : Int).toNat < n9) → (0 ≤ v2_9.toInt ∧ v2_9.toInt ≤ 256) → (v2_9.toInt ≤ x15.toInt) → (∀ s : Nat, (s : Int) < v2_9.toInt → fV18 s = 0) → (ct20 10 = ct 10) → (ct20 11 = ct 11) → (ct20 12 = ct 12) → (ct20 13 = ct 13) → (ct20 14 = ct 14) → (ct20 16 = ct 16) → (ct20 15 = .inl (g.2 1, 256, .inr (.inl fV18))) → (Inv8 g idn pe ct20) → GW l g pM pM false yX6_number cX6_number 4 (some .long) RX6 ({ frames := 1, cells := 0, slots := 0, locals := 23 }) K 0 0 ct20 9 [(2, .int v2_9), (1, .int x15), (0, .ref 10)] [] := by
    intro n9
    induction n9 with
    | zero =>
      intro v2_9 fV18 ct20 hn9 b2_9 j0_9 j1_9 hc10 hc11 hc12 hc13 hc14 hc16 hq19 hI
      exact absurd hn9 (Nat.not_lt_zero _)
    | succ n9 ih9 =>
      intro v2_9 fV18 ct20 hn9 b2_9 j0_9 j1_9 hc10 hc11 hc12 hc13 hc14 hc16 hq19 hI
      have hs21 : ct20 10 = .inr (6, [.int ln0, .int lv0, .int lk0, .int fd0, .ref 11, .ref 12, .ref 13, .ref 14, .ref 15, .ref 16]) := hc10.trans hs10
      have hs22 : ct20 12 = .inl (g.2 0, 8, .inl fF) := hc12.trans hs14
      obtain ⟨f24, hs23⟩ := a8_15 hI
      have hs25 := hq19
      cases (hq19.symm.trans hs23)
      refine dv_iload_n dX6_number_9 rfl 0 rfl ?_
      refine dv_iload_n dX6_number_10 rfl 1 rfl ?_
      refine dv_icmp_ge (tgt := 27) dX6_number_11 (by decide) (fun c26 => ?_) (fun c26 => ?_)
      · skip
        have c26 : x15.toInt ≤ v2_9.toInt := (z_le rfl rfl).mp c26
        refine dv_aload_n dX6_number_27 rfl 2 rfl ?_
        refine dv_get (ci := 6) (v := .ref 15) (C := RX6) (T := TX6) (N := 10) ⟨by decide, rfl⟩ hs21 rfl inG6 8 (by decide) mm_130 rfl dX6_number_28 ?_
        refine dv_iconst (v := 0) dX6_number_31 (by decide) ?_
        refine dv_lconst (v := 1) dX6_number_32 (by decide) ?_
        refine dv_last 1 ⟨by decide, rfl⟩ hs25 rfl (z_in (by decide : (0 : Int32).toInt = 0) (by omega) (by omega)) dX6_number_33 (en := .inl (g.2 1, 256, .inr (.inl (vp_updL fV18 (Int32.toNatClampNeg 0) 1)))) rfl (fun ct27 ec28 => ?_)
        have hI : Inv8 g idn pe ct27 := by rw [ec28]; exact up8 hI (i8_15 ⟨_, rfl⟩)
        have hc10 : ct27 10 = ct 10 := by rw [ec28]; exact (va_up_ne _ _ (by omega)).trans hc10
        have hc11 : ct27 11 = ct 11 := by rw [ec28]; exact (va_up_ne _ _ (by omega)).trans hc11
        have hc12 : ct27 12 = ct 12 := by rw [ec28]; exact (va_up_ne _ _ (by omega)).trans hc12
        have hc13 : ct27 13 = ct 13 := by rw [ec28]; exact (va_up_ne _ _ (by omega)).trans hc13
        have hc14 : ct27 14 = ct 14 := by rw [ec28]; exact (va_up_ne _ _ (by omega)).trans hc14
        have hc16 : ct27 16 = ct 16 := by rw [ec28]; exact (va_up_ne _ _ (by omega)).trans hc16
        have hs29 : ct27 10 = .inr (6, [.int ln0, .int lv0, .int lk0, .int fd0, .ref 11, .ref 12, .ref 13, .ref 14, .ref 15, .ref 16]) := by rw [ec28, va_up_ne _ _ (by omega)]; exact hs21
        have hs30 : ct27 12 = .inl (g.2 0, 8, .inl fF) := by rw [ec28, va_up_ne _ _ (by omega)]; exact hs22
        have hs31 : ct27 15 = .inl (g.2 1, 256, .inr (.inl (vp_updL fV18 (Int32.toNatClampNeg 0) 1))) := by rw [ec28]; exact va_up_self _ _ _
        have hv0 : ∀ s, s < 2 ^ ln0.toInt.toNat → (vp_updL fV18 (Int32.toNatClampNeg 0) 1) s = i64 (gvP (fun z9 q9 => ib (fF z9) q9) ln0.toInt.toNat 0 s) := fun s hs => by
          show vp_updL _ _ _ s = i64 (if s = 0 then 1 else 0)
          unfold vp_updL
          by_cases q : s = 0
          · rw [if_pos (by rw [q]; rfl), if_pos q]
            rfl
          · rw [if_neg (fun z => q (z.trans (by rfl))), if_neg q]
            exact j1_9 s (by omega)
        refine dv_iconst (v := 0) dX6_number_34 (by decide) ?_
        refine dv_istore_n (lv' := [(2, .int 0), (1, .int x15), (0, .ref 10)]) dX6_number_35 rfl (by decide) rfl ?_
        have loop36 : ∀ (n36 : Nat) (v2_36 : Int32) (fV32 : Nat → Int64) (ct34 : Nat → va_E), ((16 - v2_36.toInt : Int).toNat < n36) → (0 ≤ v2_36.toInt ∧ v2_36.toInt ≤ 16) → (∀ s, s < 2 ^ ln0.toInt.toNat → fV32 s = i64 (gvP (fun z9 q9 => ib (fF z9) q9) ln0.toInt.toNat (v2_36.toInt.toNat) s)) → (ct34 10 = ct 10) → (ct34 11 = ct 11) → (ct34 12 = ct 12) → (ct34 13 = ct 13) → (ct34 14 = ct 14) → (ct34 16 = ct 16) → (ct34 15 = .inl (g.2 1, 256, .inr (.inl fV32))) → (Inv8 g idn pe ct34) → GW l g pM pM false yX6_number cX6_number 4 (some .long) RX6 ({ frames := 1, cells := 0, slots := 0, locals := 23 }) K 0 0 ct34 36 [(2, .int v2_36), (1, .int x15), (0, .ref 10)] [] := by
          intro n36
          induction n36 with
          | zero =>
            intro v2_36 fV32 ct34 hn36 b2_36 j0_36 hc10 hc11 hc12 hc13 hc14 hc16 hq33 hI
            exact absurd hn36 (Nat.not_lt_zero _)
          | succ n36 ih36 =>
            intro v2_36 fV32 ct34 hn36 b2_36 j0_36 hc10 hc11 hc12 hc13 hc14 hc16 hq33 hI
            have hs35 : ct34 10 = .inr (6, [.int ln0, .int lv0, .int lk0, .int fd0, .ref 11, .ref 12, .ref 13, .ref 14, .ref 15, .ref 16]) := hc10.trans hs10
            have hs36 : ct34 12 = .inl (g.2 0, 8, .inl fF) := hc12.trans hs14
            obtain ⟨f38, hs37⟩ := a8_15 hI
            have hs39 := hq33
            cases (hq33.symm.trans hs37)
            refine dv_iload_n dX6_number_36 rfl 0 rfl ?_
            refine dv_bipush (v := 16) dX6_number_37 (by decide) ?_
            refine dv_icmp_ge (tgt := 79) dX6_number_39 (by decide) (fun c40 => ?_) (fun c40 => ?_)
            · skip
              have c40 : 16 ≤ v2_36.toInt := (z_le (by decide : (16 : Int32).toInt = 16) rfl).mp c40
              refine dv_aload_n dX6_number_79 rfl 2 rfl ?_
              refine dv_get (ci := 6) (v := .ref 15) (C := RX6) (T := TX6) (N := 10) ⟨by decide, rfl⟩ hs35 rfl inG6 8 (by decide) mm_130 rfl dX6_number_80 ?_
              refine dv_aload_n dX6_number_83 rfl 2 rfl ?_
              refine dv_get (ci := 6) (v := .int lv0) (C := RX6) (T := TX6) (N := 10) ⟨by decide, rfl⟩ hs35 rfl inG6 1 (by decide) mm_117 rfl dX6_number_84 ?_
              refine dv_lald 1 ⟨by decide, rfl⟩ hs39 rfl (z_in rfl (by omega) (by omega)) dX6_number_87 ?_
              refine dv_topl (fun y41 ey41 => ?_)
              exact dv_lret dX6_number_88 rfl (by first | exact Nat.zero_le _ | decide) (by first | exact Nat.zero_le _ | decide) (by subst hK; exact ⟨y41, rfl, (by rw [ey41, show Int32.toNatClampNeg lv0 = lv0.toInt.toNat from z_cl (by omega), j0_36 _ (by omega), show v2_36.toInt.toNat = 16 by omega]), hI, (by assumption), (by assumption), (by assumption), (by assumption), (by assumption), (by assumption)⟩)
            · skip
              have c40 : ¬ (16 ≤ v2_36.toInt) := fun q => c40 ((z_le (by decide : (16 : Int32).toInt = 16) rfl).mpr q)
              refine dv_iload_n dX6_number_42 rfl 1 rfl ?_
              refine dv_iconst (v := 1) dX6_number_43 (by decide) ?_
              refine dv_isub dX6_number_44 ?_
              refine dv_topi (fun x42 ex42 => ?_)
              have tx42 : x42.toInt = x15.toInt - 1 := by rw [ex42]; exact z_sub rfl (by decide : (1 : Int32).toInt = 1) (by omega) (by omega)
              refine dv_istore_n (lv' := [(3, .int x42), (2, .int v2_36), (1, .int x15), (0, .ref 10)]) dX6_number_45 rfl (by decide) rfl ?_
              have loop46 : ∀ (n46 : Nat) (v3_46 : Int32) (fV43 : Nat → Int64) (ct45 : Nat → va_E), ((v3_46.toInt + 1 : Int).toNat < n46) → (-1 ≤ v3_46.toInt ∧ v3_46.toInt ≤ 255) → (v3_46.toInt ≤ ((2 ^ ln0.toInt.toNat : Nat) : Int) - 1) → (∀ s, s < 2 ^ ln0.toInt.toNat → fV43 s = i64 (gvS (fun i => ib (fF i) (v2_36.toInt.toNat)) ln0.toInt.toNat (gvP (fun z9 q9 => ib (fF z9) q9) ln0.toInt.toNat (v2_36.toInt.toNat)) ((((2 ^ ln0.toInt.toNat : Nat) : Int) - 1 - v3_46.toInt).toNat) s)) → (ct45 10 = ct 10) → (ct45 11 = ct 11) → (ct45 12 = ct 12) → (ct45 13 = ct 13) → (ct45 14 = ct 14) → (ct45 16 = ct 16) → (ct45 15 = .inl (g.2 1, 256, .inr (.inl fV43))) → (Inv8 g idn pe ct45) → GW l g pM pM false yX6_number cX6_number 4 (some .long) RX6 ({ frames := 1, cells := 0, slots := 0, locals := 23 }) K 0 0 ct45 46 [(3, .int v3_46), (2, .int v2_36), (1, .int x15), (0, .ref 10)] [] := by
                intro n46
                induction n46 with
                | zero =>
                  intro v3_46 fV43 ct45 hn46 b3_46 j0_46 j1_46 hc10 hc11 hc12 hc13 hc14 hc16 hq44 hI
                  exact absurd hn46 (Nat.not_lt_zero _)
                | succ n46 ih46 =>
                  intro v3_46 fV43 ct45 hn46 b3_46 j0_46 j1_46 hc10 hc11 hc12 hc13 hc14 hc16 hq44 hI
                  have hs46 : ct45 10 = .inr (6, [.int ln0, .int lv0, .int lk0, .int fd0, .ref 11, .ref 12, .ref 13, .ref 14, .ref 15, .ref 16]) := hc10.trans hs10
                  have hs47 : ct45 12 = .inl (g.2 0, 8, .inl fF) := hc12.trans hs14
                  obtain ⟨f49, hs48⟩ := a8_15 hI
                  have hs50 := hq44
                  cases (hq44.symm.trans hs48)
                  refine dv_iload_n dX6_number_46 rfl 0 rfl ?_
                  refine dv_if_lt (tgt := 73) dX6_number_47 (by decide) (fun c51 => ?_) (fun c51 => ?_)
                  · skip
                    have c51 : v3_46.toInt < 0 := (z_lt rfl (by decide : (0 : Int32).toInt = 0)).mp c51
                    obtain ⟨x52, ex52⟩ : ∃ y : Int32, y = v2_36 + 1 := ⟨_, rfl⟩
                    have tx52 : x52.toInt = v2_36.toInt + 1 := by rw [ex52]; exact z_add rfl (by decide : (1 : Int32).toInt = 1) (by omega) (by omega)
                    refine dv_iinc (v := x52) (lv' := [(2, .int x52), (3, .int v3_46), (1, .int x15), (0, .ref 10)]) dX6_number_73 (k := 1) rfl (by rw [ex52]; rfl) (by decide) rfl ?_
                    refine dv_goto (tgt := 36) dX6_number_76 (by decide) ?_
                    refine dv_sub (loc2 := [(2, .int x52), (1, .int x15), (0, .ref 10)]) [0, 2, 3] rfl ?_
                    exact ih36 x52 fV43 ct45 (by omega) (by omega) (by rw [show x52.toInt.toNat = v2_36.toInt.toNat + 1 by omega]; intro s hs; have h9 := j1_46 s hs; rw [show (((2 ^ ln0.toInt.toNat : Nat) : Int) - 1 - v3_46.toInt).toNat = 2 ^ ln0.toInt.toNat by omega] at h9; exact h9) hc10 hc11 hc12 hc13 hc14 hc16 hs50 hI
                  · skip
                    have c51 : ¬ (v3_46.toInt < 0) := fun q => c51 ((z_lt rfl (by decide : (0 : Int32).toInt = 0)).mpr q)
                    refine dv_aload_n dX6_number_50 rfl 3 rfl ?_
                    refine dv_get (ci := 6) (v := .ref 15) (C := RX6) (T := TX6) (N := 10) ⟨by decide, rfl⟩ hs46 rfl inG6 8 (by decide) mm_130 rfl dX6_number_51 ?_
                    refine dv_iload_n dX6_number_54 rfl 0 rfl ?_
                    refine dv_lald 1 ⟨by decide, rfl⟩ hs50 rfl (z_in rfl (by omega) (by omega)) dX6_number_55 ?_
                    refine dv_topl (fun y53 ey53 => ?_)
                    refine dv_lconst (v := 0) dX6_number_56 (by decide) ?_
                    refine dv_lcmp dX6_number_57 ?_
                    refine dv_if_eq (tgt := 67) dX6_number_58 (by decide) (fun c54 => ?_) (fun c54 => ?_)
                    · skip
                      have c54 := (lg_cmp_eq _ _).mp c54
                      have hz46 : gvS (fun i => ib (fF i) (v2_36.toInt.toNat)) ln0.toInt.toNat (gvP (fun z9 q9 => ib (fF z9) q9) ln0.toInt.toNat v2_36.toInt.toNat) ((((2 ^ ln0.toInt.toNat : Nat) : Int) - 1 - v3_46.toInt).toNat) v3_46.toInt.toNat = 0 := i64_0 (gvS_lt (by omega) (by omega) _ (by omega) _ (by omega)) (by rw [← j1_46 v3_46.toInt.toNat (by omega), show v3_46.toInt.toNat = Int32.toNatClampNeg v3_46 by have := z_clI (x := v3_46) (by omega); omega, ← ey53]; exact c54)
                      obtain ⟨x55, ex55⟩ : ∃ y : Int32, y = v3_46 + (-1) := ⟨_, rfl⟩
                      have tx55 : x55.toInt = v3_46.toInt + (-1) := by rw [ex55]; exact z_add rfl (by decide : ((-1) : Int32).toInt = (-1)) (by omega) (by omega)
                      refine dv_iinc (v := x55) (lv' := [(3, .int x55), (2, .int v2_36), (1, .int x15), (0, .ref 10)]) dX6_number_67 (k := 0) rfl (by rw [ex55]; rfl) (by decide) rfl ?_
                      refine dv_goto (tgt := 46) dX6_number_70 (by decide) ?_
                      have hk46 : (((2 ^ ln0.toInt.toNat : Nat) : Int) - 1 - x55.toInt).toNat = (((2 ^ ln0.toInt.toNat : Nat) : Int) - 1 - v3_46.toInt).toNat + 1 := by omega
                      have ht46 : 2 ^ ln0.toInt.toNat - 1 - (((2 ^ ln0.toInt.toNat : Nat) : Int) - 1 - v3_46.toInt).toNat = v3_46.toInt.toNat := by omega
                      exact ih46 x55 fV43 ct45 (by omega) (by omega) (by omega) (by rw [hk46]; intro s hs; show _ = i64 (gvI _ (2 ^ ln0.toInt.toNat - 1 - (((2 ^ ln0.toInt.toNat : Nat) : Int) - 1 - v3_46.toInt).toNat) _ _ s); rw [ht46, gvI_zero hz46]; exact j1_46 s hs) hc10 hc11 hc12 hc13 hc14 hc16 hs50 hI
                    · skip
                      have c54 := fun q => c54 ((lg_cmp_eq _ _).mpr q)
                      have c54 : ¬ (y53 = (0 : Int64)) := c54
                      refine dv_aload_n dX6_number_61 rfl 3 rfl ?_
                      refine dv_iload_n dX6_number_62 rfl 0 rfl ?_
                      refine dv_iload_n dX6_number_63 rfl 1 rfl ?_
                      refine GW.callV (n := 2) (As := [.int v3_46, .int v2_36]) (rest := []) (b := 10) (f_giveTo l g pe ct45 v3_46 v2_36 ln0 lv0 lk0 fd0 fF fV43 (gvS (fun i => ib (fF i) (v2_36.toInt.toNat)) ln0.toInt.toNat (gvP (fun z9 q9 => ib (fF z9) q9) ln0.toInt.toNat v2_36.toInt.toNat) ((((2 ^ ln0.toInt.toNat : Nat) : Int) - 1 - v3_46.toInt).toNat)) (by first | omega | decide) (by first | omega | decide) hI hs46 hs47 hs50 (by omega) (j1_46)) (fun _ h => h) rfl rfl ⟨by decide, rfl⟩ hs46 (q := (RX6, TX6, 10)) rfl mm_482 mm_484 mm_13 mm_55 mm_485 (by decide +kernel) ⟨Nat.le_of_ble_eq_true rfl, Nat.le_of_ble_eq_true rfl⟩ rfl (Nat.le_of_ble_eq_true rfl) dX6_number_64 (Nat.zero_le _) (Nat.zero_le _) rfl (fun ct56 rrr57 hBr57 hoff58 => ?_)
                      obtain ⟨rfl, hI, hk59, hk60, hk61, hk62, hk63, hk64, hk65⟩ := hBr57
                      refine GW.eq (S2 := []) rfl rfl rfl ?_
                      obtain ⟨fV66, hq67, hv68⟩ := hk59
                      obtain ⟨f70, hs69⟩ := a8_15 hI
                      have hs71 := hq67
                      cases (hq67.symm.trans hs69)
                      have hc10 : ct56 10 = ct 10 := hk60.trans hc10
                      have hc11 : ct56 11 = ct 11 := hk61.trans hc11
                      have hc12 : ct56 12 = ct 12 := hk62.trans hc12
                      have hc13 : ct56 13 = ct 13 := hk63.trans hc13
                      have hc14 : ct56 14 = ct 14 := hk64.trans hc14
                      have hc16 : ct56 16 = ct 16 := hk65.trans hc16
                      have hs72 : ct56 10 = .inr (6, [.int ln0, .int lv0, .int lk0, .int fd0, .ref 11, .ref 12, .ref 13, .ref 14, .ref 15, .ref 16]) := hk60.trans hs46
                      have hs73 : ct56 12 = .inl (g.2 0, 8, .inl fF) := hk62.trans hs47
                      obtain ⟨x74, ex74⟩ : ∃ y : Int32, y = v3_46 + (-1) := ⟨_, rfl⟩
                      have tx74 : x74.toInt = v3_46.toInt + (-1) := by rw [ex74]; exact z_add rfl (by decide : ((-1) : Int32).toInt = (-1)) (by omega) (by omega)
                      refine dv_iinc (v := x74) (lv' := [(3, .int x74), (2, .int v2_36), (1, .int x15), (0, .ref 10)]) dX6_number_67 (k := 0) rfl (by rw [ex74]; rfl) (by decide) rfl ?_
                      refine dv_goto (tgt := 46) dX6_number_70 (by decide) ?_
                      have hk46 : (((2 ^ ln0.toInt.toNat : Nat) : Int) - 1 - x74.toInt).toNat = (((2 ^ ln0.toInt.toNat : Nat) : Int) - 1 - v3_46.toInt).toNat + 1 := by omega
                      have ht46 : 2 ^ ln0.toInt.toNat - 1 - (((2 ^ ln0.toInt.toNat : Nat) : Int) - 1 - v3_46.toInt).toNat = v3_46.toInt.toNat := by omega
                      exact ih46 x74 fV66 ct56 (by omega) (by omega) (by omega) (by rw [hk46]; intro s hs; have h9 := hv68 s hs; show _ = i64 (gvI _ (2 ^ ln0.toInt.toNat - 1 - (((2 ^ ln0.toInt.toNat : Nat) : Int) - 1 - v3_46.toInt).toNat) _ _ s); rw [ht46]; exact h9) hc10 hc11 hc12 hc13 hc14 hc16 hs71 hI
              exact loop46 ((x42.toInt + 1 : Int).toNat + 1) x42 fV32 ct34 (by omega) (by omega) (by omega) (by rw [show (((2 ^ ln0.toInt.toNat : Nat) : Int) - 1 - x42.toInt).toNat = 0 by omega]; exact j0_36) hc10 hc11 hc12 hc13 hc14 hc16 hs39 hI
        exact loop36 ((16 - (0 : Int32).toInt : Int).toNat + 1) (0 : Int32) (vp_updL fV18 (Int32.toNatClampNeg 0) 1) ct27 (by omega) (by first | omega | decide | (have hz0 : (0 : Int32).toInt = 0 := (by decide); have hz1 : (1 : Int32).toInt = 1 := (by decide); omega)) hv0 hc10 hc11 hc12 hc13 hc14 hc16 hs31 hI
      · skip
        have c26 : ¬ (x15.toInt ≤ v2_9.toInt) := fun q => c26 ((z_le rfl rfl).mpr q)
        refine dv_aload_n dX6_number_14 rfl 2 rfl ?_
        refine dv_get (ci := 6) (v := .ref 15) (C := RX6) (T := TX6) (N := 10) ⟨by decide, rfl⟩ hs21 rfl inG6 8 (by decide) mm_130 rfl dX6_number_15 ?_
        refine dv_iload_n dX6_number_18 rfl 0 rfl ?_
        refine dv_lconst (v := 0) dX6_number_19 (by decide) ?_
        refine dv_last 1 ⟨by decide, rfl⟩ hs25 rfl (z_in rfl (by omega) (by omega)) dX6_number_20 (en := .inl (g.2 1, 256, .inr (.inl (vp_updL fV18 (Int32.toNatClampNeg v2_9) 0)))) rfl (fun ct75 ec76 => ?_)
        have hI : Inv8 g idn pe ct75 := by rw [ec76]; exact up8 hI (i8_15 ⟨_, rfl⟩)
        have hc10 : ct75 10 = ct 10 := by rw [ec76]; exact (va_up_ne _ _ (by omega)).trans hc10
        have hc11 : ct75 11 = ct 11 := by rw [ec76]; exact (va_up_ne _ _ (by omega)).trans hc11
        have hc12 : ct75 12 = ct 12 := by rw [ec76]; exact (va_up_ne _ _ (by omega)).trans hc12
        have hc13 : ct75 13 = ct 13 := by rw [ec76]; exact (va_up_ne _ _ (by omega)).trans hc13
        have hc14 : ct75 14 = ct 14 := by rw [ec76]; exact (va_up_ne _ _ (by omega)).trans hc14
        have hc16 : ct75 16 = ct 16 := by rw [ec76]; exact (va_up_ne _ _ (by omega)).trans hc16
        have hs77 : ct75 10 = .inr (6, [.int ln0, .int lv0, .int lk0, .int fd0, .ref 11, .ref 12, .ref 13, .ref 14, .ref 15, .ref 16]) := by rw [ec76, va_up_ne _ _ (by omega)]; exact hs21
        have hs78 : ct75 12 = .inl (g.2 0, 8, .inl fF) := by rw [ec76, va_up_ne _ _ (by omega)]; exact hs22
        have hs79 : ct75 15 = .inl (g.2 1, 256, .inr (.inl (vp_updL fV18 (Int32.toNatClampNeg v2_9) 0))) := by rw [ec76]; exact va_up_self _ _ _
        obtain ⟨x80, ex80⟩ : ∃ y : Int32, y = v2_9 + 1 := ⟨_, rfl⟩
        have tx80 : x80.toInt = v2_9.toInt + 1 := by rw [ex80]; exact z_add rfl (by decide : (1 : Int32).toInt = 1) (by omega) (by omega)
        refine dv_iinc (v := x80) (lv' := [(2, .int x80), (1, .int x15), (0, .ref 10)]) dX6_number_21 (k := 0) rfl (by rw [ex80]; rfl) (by decide) rfl ?_
        refine dv_goto (tgt := 9) dX6_number_24 (by decide) ?_
        exact ih9 x80 (vp_updL fV18 (Int32.toNatClampNeg v2_9) 0) ct75 (by omega) (by omega) (by omega) (fun s hs => by
            unfold vp_updL
            by_cases q : s = Int32.toNatClampNeg v2_9
            · rw [if_pos q]
            · rw [if_neg q]
              exact j1_9 s (by have := z_clI (x := v2_9) (by omega); omega)) hc10 hc11 hc12 hc13 hc14 hc16 hs79 hI
  exact loop9 ((256 - (0 : Int32).toInt : Int).toNat + 1) (0 : Int32) f17 ct (by omega) (by first | omega | decide | (have hz0 : (0 : Int32).toInt = 0 := (by decide); have hz1 : (1 : Int32).toInt = 1 := (by decide); omega)) (by first | omega | decide | (have hz0 : (0 : Int32).toInt = 0 := (by decide); have hz1 : (1 : Int32).toInt = 1 := (by decide); omega)) (fun s hs => absurd hs (by have := (by decide : (0 : Int32).toInt = 0); omega)) hc10 hc11 hc12 hc13 hc14 hc16 hs16 hI
