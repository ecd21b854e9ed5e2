set_option maxHeartbeats 4000000 in
set_option maxRecDepth 100000 in
theorem f_giveTo (l : Launch) (g : zG) (pe : Int32) (ct : Nat → va_E) (st0 : Int32) (p0 : Int32) (ln0 : Int32) (lv0 : Int32) (lk0 : Int32) (fd0 : Int32) (fF : Nat → Int32) (fW : Nat → Int64) (W : Nat → Nat) (hl_st0 : 0 ≤ st0.toInt ∧ st0.toInt ≤ 255) (hl_p0 : 0 ≤ p0.toInt ∧ p0.toInt ≤ 15) (hI : Inv8 g idn pe ct) (h10 : ct 10 = .inr (6, [.int ln0, .int lv0, .int lk0, .int fd0, .ref 11, .ref 12, .ref 13, .ref 14, .ref 15, .ref 16])) (h12 : ct 12 = .inl (g.2 0, 8, .inl fF)) (h15 : ct 15 = .inl (g.2 1, 256, .inr (.inl fW))) (hst : st0.toInt < ((2 ^ ln0.toInt.toNat : Nat) : Int)) (hW : ∀ s, s < 2 ^ ln0.toInt.toNat → fW s = i64 (W s)) : DM l g pM false yX6_giveTo cX6_giveTo 4 none ({ frames := 0, cells := 0, slots := 0, locals := 0 }) (fun (ct2 : Nat → va_E) (rr : Option Value) => rr = none ∧ Inv8 g idn pe ct2 ∧ (∃ fW2 : Nat → Int64, ct2 15 = .inl (g.2 1, 256, .inr (.inl fW2)) ∧ ∀ s, s < 2 ^ ln0.toInt.toNat → fW2 s = i64 (gvI (fun i => ib (fF i) p0.toInt.toNat) st0.toInt.toNat W ln0.toInt.toNat s)) ∧ (ct2 10 = ct 10) ∧ (ct2 11 = ct 11) ∧ (ct2 12 = ct 12) ∧ (ct2 13 = ct 13) ∧ (ct2 14 = ct 14) ∧ (ct2 16 = ct 16)) ct [.ref 10, .int st0, .int p0] := by
  refine DM.K (fun K hK => ?_)
  refine GW.met (own := RX6) (loc := [(0, .ref 10), (1, .int st0), (2, .int p0)]) (by decide) rfl rfl (Nat.le_of_ble_eq_true rfl) ?_
  have hpe0 := hI.1
  obtain ⟨lns2, liv3, lak4, fnd5, h6, h7, h8, h9, hs1⟩ := a8_10 hI
  have hs10 := h10
  cases (h10.symm.trans hs1)
  obtain ⟨f12, hp13, hs11⟩ := a8_12 hI
  have hs14 := h12
  cases (h12.symm.trans hs11)
  obtain ⟨f16, hs15⟩ := a8_15 hI
  have hs17 := h15
  cases (h15.symm.trans hs15)
  have hc10 : ct 10 = ct 10 := rfl
  have hc11 : ct 11 = ct 11 := rfl
  have hc12 : ct 12 = ct 12 := rfl
  have hc13 : ct 13 = ct 13 := rfl
  have hc14 : ct 14 = ct 14 := rfl
  have hc16 : ct 16 = ct 16 := rfl
  refine dv_iconst (v := 0) dX6_giveTo_0 (by decide) ?_
  refine dv_istore_n (lv' := [(3, .int 0), (0, .ref 10), (1, .int st0), (2, .int p0)]) dX6_giveTo_1 rfl (by decide) rfl ?_
  have loop2 : ∀ (n2 : Nat) (v3_2 : Int32) (fV18 : Nat → Int64) (ct20 : Nat → va_E), ((8 - v3_2.toInt : Int).toNat < n2) → (0 ≤ v3_2.toInt ∧ v3_2.toInt ≤ 8) → (v3_2.toInt ≤ ln0.toInt) → (∀ s, s < 2 ^ ln0.toInt.toNat → fV18 s = i64 (gvI (fun i => ib (fF i) p0.toInt.toNat) st0.toInt.toNat W v3_2.toInt.toNat s)) → (ct20 10 = ct 10) → (ct20 11 = ct 11) → (ct20 12 = ct 12) → (ct20 13 = ct 13) → (ct20 14 = ct 14) → (ct20 16 = ct 16) → (ct20 15 = .inl (g.2 1, 256, .inr (.inl fV18))) → (Inv8 g idn pe ct20) → GW l g pM pM false yX6_giveTo cX6_giveTo 4 none RX6 ({ frames := 0, cells := 0, slots := 0, locals := 0 }) K 0 0 ct20 2 [(3, .int v3_2), (0, .ref 10), (1, .int st0), (2, .int p0)] [] := by
    intro n2
    induction n2 with
    | zero =>
      intro v3_2 fV18 ct20 hn2 b3_2 j0_2 j1_2 hc10 hc11 hc12 hc13 hc14 hc16 hq19 hI
      exact absurd hn2 (Nat.not_lt_zero _)
    | succ n2 ih2 =>
      intro v3_2 fV18 ct20 hn2 b3_2 j0_2 j1_2 hc10 hc11 hc12 hc13 hc14 hc16 hq19 hI
      have hs21 : ct20 10 = .inr (6, [.int ln0, .int lv0, .int lk0, .int fd0, .ref 11, .ref 12, .ref 13, .ref 14, .ref 15, .ref 16]) := hc10.trans hs10
      have hs22 : ct20 12 = .inl (g.2 0, 8, .inl fF) := hc12.trans hs14
      obtain ⟨f24, hs23⟩ := a8_15 hI
      have hs25 := hq19
      cases (hq19.symm.trans hs23)
      refine dv_iload_n dX6_giveTo_2 rfl 0 rfl ?_
      refine dv_aload_n dX6_giveTo_3 rfl 1 rfl ?_
      refine dv_get (ci := 6) (v := .int ln0) (C := RX6) (T := TX6) (N := 10) ⟨by decide, rfl⟩ hs21 rfl inG6 0 (by decide) mm_115 rfl dX6_giveTo_4 ?_
      refine dv_icmp_ge (tgt := 57) dX6_giveTo_7 (by decide) (fun c26 => ?_) (fun c26 => ?_)
      · skip
        have c26 : ln0.toInt ≤ v3_2.toInt := (z_le rfl rfl).mp c26
        exact dv_vret dX6_giveTo_57 rfl (by first | exact Nat.zero_le _ | decide) (by first | exact Nat.zero_le _ | decide) (by subst hK; exact ⟨rfl, hI, (⟨_, hs25, fun s hs => (j1_2 s hs).trans (congrArg (fun z => i64 (gvI (fun i => ib (fF i) p0.toInt.toNat) st0.toInt.toNat W z s)) (show v3_2.toInt.toNat = ln0.toInt.toNat by omega))⟩), (by assumption), (by assumption), (by assumption), (by assumption), (by assumption), (by assumption)⟩)
      · skip
        have c26 : ¬ (ln0.toInt ≤ v3_2.toInt) := fun q => c26 ((z_le rfl rfl).mpr q)
        have h2le := hp_le ln0.toInt.toNat (by omega)
        refine dv_iload_n dX6_giveTo_10 rfl 2 rfl ?_
        refine dv_iload_n dX6_giveTo_11 rfl 0 rfl ?_
        refine dv_ishr dX6_giveTo_12 ?_
        refine dv_topi (fun x27 ex27 => ?_)
        have tx27 := z_shr (x := st0) rfl (by omega) v3_2
        rw [← ex27] at tx27
        refine dv_iconst (v := 1) dX6_giveTo_13 (by decide) ?_
        refine dv_iand dX6_giveTo_14 ?_
        refine dv_topi (fun x28 ex28 => ?_)
        have tx28 := z_andr (x := x27) (y := 1) (by decide : (1 : Int32).toInt = 1) (by omega)
        rw [← ex28] at tx28
        refine dv_if_ne (tgt := 51) dX6_giveTo_15 (by decide) (fun c29 => ?_) (fun c29 => ?_)
        · skip
          have c29 : ¬ (x28.toInt = 0) := fun q => c29 ((z_eq rfl (by decide : (0 : Int32).toInt = 0)).mpr q)
          have hset0 : ib st0 (v3_2.toInt.toNat) = true := by
            rcases zb_ask (x := st0) (y := v3_2) (p := v3_2.toInt.toNat) (by omega) (by omega) (by omega) (ex28.trans (by rw [ex27])) with ⟨q1, q2⟩ | ⟨q1, q2⟩
            · first | exact q2 | (exfalso; omega)
            · first | exact q2 | (exfalso; omega)
          have hset : st0.toInt.toNat.testBit (v3_2.toInt.toNat) = true := by
            have h9 := ib_nI (s := st0.toInt.toNat) (k := v3_2.toInt.toNat) (by omega)
            rw [← z_nI (x := st0) (k := st0.toInt.toNat) (by omega)] at h9
            exact h9.symm.trans hset0
          obtain ⟨x30, ex30⟩ : ∃ y : Int32, y = v3_2 + 1 := ⟨_, rfl⟩
          have tx30 : x30.toInt = v3_2.toInt + 1 := by rw [ex30]; exact z_add rfl (by decide : (1 : Int32).toInt = 1) (by omega) (by omega)
          refine dv_iinc (v := x30) (lv' := [(3, .int x30), (0, .ref 10), (1, .int st0), (2, .int p0)]) dX6_giveTo_51 (k := 0) rfl (by rw [ex30]; rfl) (by decide) rfl ?_
          refine dv_goto (tgt := 2) dX6_giveTo_54 (by decide) ?_
          exact ih2 x30 fV18 ct20 (by omega) (by omega) (by omega) (by rw [show x30.toInt.toNat = v3_2.toInt.toNat + 1 by omega]; exact fun s hs => (j1_2 s hs).trans (congrArg i64 (gvI_skip (fb := (fun i => ib (fF i) p0.toInt.toNat)) (Or.inr hset) s).symm)) hc10 hc11 hc12 hc13 hc14 hc16 hs25 hI
        · skip
          have c29 : x28.toInt = 0 := (z_eq rfl (by decide : (0 : Int32).toInt = 0)).mp c29
          have hset0 : ib st0 (v3_2.toInt.toNat) = false := by
            rcases zb_ask (x := st0) (y := v3_2) (p := v3_2.toInt.toNat) (by omega) (by omega) (by omega) (ex28.trans (by rw [ex27])) with ⟨q1, q2⟩ | ⟨q1, q2⟩
            · first | exact q2 | (exfalso; omega)
            · first | exact q2 | (exfalso; omega)
          have hset : st0.toInt.toNat.testBit (v3_2.toInt.toNat) = false := by
            have h9 := ib_nI (s := st0.toInt.toNat) (k := v3_2.toInt.toNat) (by omega)
            rw [← z_nI (x := st0) (k := st0.toInt.toNat) (by omega)] at h9
            exact h9.symm.trans hset0
          refine dv_aload_n dX6_giveTo_18 rfl 1 rfl ?_
          refine dv_get (ci := 6) (v := .ref 12) (C := RX6) (T := TX6) (N := 10) ⟨by decide, rfl⟩ hs21 rfl inG6 5 (by decide) mm_125 rfl dX6_giveTo_19 ?_
          refine dv_iload_n dX6_giveTo_22 rfl 0 rfl ?_
          refine dv_iald 0 ⟨by decide, rfl⟩ hs22 rfl (z_in rfl (by omega) (by omega)) dX6_giveTo_23 ?_
          refine dv_topi (fun y31 ey31 => ?_)
          have hy31 := hp13 _ (z_clt (x := v3_2) rfl (by omega) (by omega))
          rw [← ey31] at hy31
          have hy31 : 0 ≤ y31.toInt ∧ y31.toInt ≤ 65535 := hy31
          refine dv_iload_n dX6_giveTo_24 rfl 3 rfl ?_
          refine dv_ishr dX6_giveTo_25 ?_
          refine dv_topi (fun x32 ex32 => ?_)
          have tx32 := z_shr (x := y31) rfl (by omega) p0
          rw [← ex32] at tx32
          refine dv_iconst (v := 1) dX6_giveTo_26 (by decide) ?_
          refine dv_iand dX6_giveTo_27 ?_
          refine dv_topi (fun x33 ex33 => ?_)
          have tx33 := z_andr (x := x32) (y := 1) (by decide : (1 : Int32).toInt = 1) (by omega)
          rw [← ex33] at tx33
          refine dv_iconst (v := 1) dX6_giveTo_28 (by decide) ?_
          refine dv_icmp_ne (tgt := 51) dX6_giveTo_29 (by decide) (fun c34 => ?_) (fun c34 => ?_)
          · skip
            have c34 : ¬ (x33.toInt = 1) := fun q => c34 ((z_eq rfl (by decide : (1 : Int32).toInt = 1)).mpr q)
            have hfit0 : ib y31 (p0.toInt.toNat) = false := by
              rcases zb_ask (x := y31) (y := p0) (p := p0.toInt.toNat) (by omega) (by omega) (by omega) (ex33.trans (by rw [ex32])) with ⟨q1, q2⟩ | ⟨q1, q2⟩
              · first | exact q2 | (exfalso; omega)
              · first | exact q2 | (exfalso; omega)
            have hfit : (fun i => ib (fF i) p0.toInt.toNat) (v3_2.toInt.toNat) = false := by
              show ib (fF (v3_2.toInt.toNat)) p0.toInt.toNat = false
              rw [show v3_2.toInt.toNat = Int32.toNatClampNeg v3_2 by have := z_clI (x := v3_2) (by omega); omega, ← ey31]
              exact hfit0
            obtain ⟨x35, ex35⟩ : ∃ y : Int32, y = v3_2 + 1 := ⟨_, rfl⟩
            have tx35 : x35.toInt = v3_2.toInt + 1 := by rw [ex35]; exact z_add rfl (by decide : (1 : Int32).toInt = 1) (by omega) (by omega)
            refine dv_iinc (v := x35) (lv' := [(3, .int x35), (0, .ref 10), (1, .int st0), (2, .int p0)]) dX6_giveTo_51 (k := 0) rfl (by rw [ex35]; rfl) (by decide) rfl ?_
            refine dv_goto (tgt := 2) dX6_giveTo_54 (by decide) ?_
            exact ih2 x35 fV18 ct20 (by omega) (by omega) (by omega) (by rw [show x35.toInt.toNat = v3_2.toInt.toNat + 1 by omega]; exact fun s hs => (j1_2 s hs).trans (congrArg i64 (gvI_skip (fb := (fun i => ib (fF i) p0.toInt.toNat)) (Or.inl hfit) s).symm)) hc10 hc11 hc12 hc13 hc14 hc16 hs25 hI
          · skip
            have c34 : x33.toInt = 1 := (z_eq rfl (by decide : (1 : Int32).toInt = 1)).mp c34
            have hfit0 : ib y31 (p0.toInt.toNat) = true := by
              rcases zb_ask (x := y31) (y := p0) (p := p0.toInt.toNat) (by omega) (by omega) (by omega) (ex33.trans (by rw [ex32])) with ⟨q1, q2⟩ | ⟨q1, q2⟩
              · first | exact q2 | (exfalso; omega)
              · first | exact q2 | (exfalso; omega)
            have hfit : (fun i => ib (fF i) p0.toInt.toNat) (v3_2.toInt.toNat) = true := by
              show ib (fF (v3_2.toInt.toNat)) p0.toInt.toNat = true
              rw [show v3_2.toInt.toNat = Int32.toNatClampNeg v3_2 by have := z_clI (x := v3_2) (by omega); omega, ← ey31]
              exact hfit0
            refine dv_aload_n dX6_giveTo_32 rfl 1 rfl ?_
            refine dv_get (ci := 6) (v := .ref 15) (C := RX6) (T := TX6) (N := 10) ⟨by decide, rfl⟩ hs21 rfl inG6 8 (by decide) mm_130 rfl dX6_giveTo_33 ?_
            refine dv_iload_n dX6_giveTo_36 rfl 2 rfl ?_
            refine dv_iconst (v := 1) dX6_giveTo_37 (by decide) ?_
            refine dv_iload_n dX6_giveTo_38 rfl 0 rfl ?_
            refine dv_ishl dX6_giveTo_39 ?_
            refine dv_topi (fun x36 ex36 => ?_)
            have tx36 := z_shl1e (y := v3_2) (by omega) (by omega)
            rw [← ex36] at tx36
            have ux36 := z_shl1 (y := v3_2) rfl (by omega) (k := 7) (by decide) (by omega)
            rw [← ex36] at ux36
            refine dv_ior dX6_giveTo_40 ?_
            refine dv_topi (fun x37 ex37 => ?_)
            have hix : st0.toInt.toNat + 2 ^ v3_2.toInt.toNat < 2 ^ ln0.toInt.toNat := hb_addlt ln0.toInt.toNat (by omega) _ (by omega) _ (by omega) hset
            have hi256 := hp_le ln0.toInt.toNat (by omega)
            have nx37 : x37 = nI (st0.toInt.toNat + 2 ^ v3_2.toInt.toNat) := by
              have h1 := z_orB (v3_2.toInt.toNat) (by omega) st0.toInt.toNat (by omega) hset
              rw [← z_nI (x := st0) (k := st0.toInt.toNat) (by omega), ← z_nI (x := v3_2) (k := v3_2.toInt.toNat) (by omega)] at h1
              rw [ex37, ex36]
              exact h1
            have tx37 : x37.toInt = ((st0.toInt.toNat + 2 ^ v3_2.toInt.toNat : Nat) : Int) := by rw [nx37]; exact nI_toInt (by omega)
            refine dv_dup2_11 dX6_giveTo_41 rfl rfl ?_
            refine dv_lald 1 ⟨by decide, rfl⟩ hs25 rfl (z_in rfl (by omega) (by omega)) dX6_giveTo_42 ?_
            refine dv_topl (fun y38 ey38 => ?_)
            refine dv_aload_n dX6_giveTo_43 rfl 1 rfl ?_
            refine dv_get (ci := 6) (v := .ref 15) (C := RX6) (T := TX6) (N := 10) ⟨by decide, rfl⟩ hs21 rfl inG6 8 (by decide) mm_130 rfl dX6_giveTo_44 ?_
            refine dv_iload_n dX6_giveTo_47 rfl 2 rfl ?_
            refine dv_lald 1 ⟨by decide, rfl⟩ hs25 rfl (z_in rfl (by omega) (by omega)) dX6_giveTo_48 ?_
            refine dv_topl (fun y39 ey39 => ?_)
            refine dv_ladd dX6_giveTo_49 ?_
            refine dv_topl (fun x40 ex40 => ?_)
            refine dv_last 1 ⟨by decide, rfl⟩ hs25 rfl (z_in rfl (by omega) (by omega)) dX6_giveTo_50 (en := .inl (g.2 1, 256, .inr (.inl (vp_updL fV18 (Int32.toNatClampNeg x37) x40)))) rfl (fun ct41 ec42 => ?_)
            have hI : Inv8 g idn pe ct41 := by rw [ec42]; exact up8 hI (i8_15 ⟨_, rfl⟩)
            have hc10 : ct41 10 = ct 10 := by rw [ec42]; exact (va_up_ne _ _ (by omega)).trans hc10
            have hc11 : ct41 11 = ct 11 := by rw [ec42]; exact (va_up_ne _ _ (by omega)).trans hc11
            have hc12 : ct41 12 = ct 12 := by rw [ec42]; exact (va_up_ne _ _ (by omega)).trans hc12
            have hc13 : ct41 13 = ct 13 := by rw [ec42]; exact (va_up_ne _ _ (by omega)).trans hc13
            have hc14 : ct41 14 = ct 14 := by rw [ec42]; exact (va_up_ne _ _ (by omega)).trans hc14
            have hc16 : ct41 16 = ct 16 := by rw [ec42]; exact (va_up_ne _ _ (by omega)).trans hc16
            have hs43 : ct41 10 = .inr (6, [.int ln0, .int lv0, .int lk0, .int fd0, .ref 11, .ref 12, .ref 13, .ref 14, .ref 15, .ref 16]) := by rw [ec42, va_up_ne _ _ (by omega)]; exact hs21
            have hs44 : ct41 12 = .inl (g.2 0, 8, .inl fF) := by rw [ec42, va_up_ne _ _ (by omega)]; exact hs22
            have hs45 : ct41 15 = .inl (g.2 1, 256, .inr (.inl (vp_updL fV18 (Int32.toNatClampNeg x37) x40))) := by rw [ec42]; exact va_up_self _ _ _
            have hgv : ∀ s, s < 2 ^ ln0.toInt.toNat → ((vp_updL fV18 (Int32.toNatClampNeg x37) x40)) s = i64 (gvI (fun i => ib (fF i) p0.toInt.toNat) st0.toInt.toNat W (v3_2.toInt.toNat + 1) s) := by
              rw [show (x40 : Int64) = y38 + y39 from by first | rfl | assumption]
              exact gvI_give j1_2 hfit hset (by omega) (z_cl (by omega)) (by rw [z_cl (x := x37) (k := st0.toInt.toNat + 2 ^ v3_2.toInt.toNat) (by omega)]; exact hix) ey38 (by rw [ey39]; exact congrArg _ (z_cl (x := st0) (k := st0.toInt.toNat) (by omega)))
            obtain ⟨x46, ex46⟩ : ∃ y : Int32, y = v3_2 + 1 := ⟨_, rfl⟩
            have tx46 : x46.toInt = v3_2.toInt + 1 := by rw [ex46]; exact z_add rfl (by decide : (1 : Int32).toInt = 1) (by omega) (by omega)
            refine dv_iinc (v := x46) (lv' := [(3, .int x46), (0, .ref 10), (1, .int st0), (2, .int p0)]) dX6_giveTo_51 (k := 0) rfl (by rw [ex46]; rfl) (by decide) rfl ?_
            refine dv_goto (tgt := 2) dX6_giveTo_54 (by decide) ?_
            exact ih2 x46 (vp_updL fV18 (Int32.toNatClampNeg x37) x40) ct41 (by omega) (by omega) (by omega) (by rw [show x46.toInt.toNat = v3_2.toInt.toNat + 1 by omega]; exact hgv) hc10 hc11 hc12 hc13 hc14 hc16 hs45 hI
  exact loop2 ((8 - (0 : Int32).toInt : Int).toNat + 1) (0 : Int32) fW ct (by omega) (by first | omega | decide | (have hz0 : (0 : Int32).toInt = 0 := (by decide); have hz1 : (1 : Int32).toInt = 1 := (by decide); omega)) (by first | omega | decide | (have hz0 : (0 : Int32).toInt = 0 := (by decide); have hz1 : (1 : Int32).toInt = 1 := (by decide); omega)) (fun s hs => hW s hs) hc10 hc11 hc12 hc13 hc14 hc16 hs17 hI
