set_option maxHeartbeats 4000000 in
set_option maxRecDepth 100000 in
theorem f_weigh (l : Launch) (g : zG) (pe : Int32) (ct : Nat → va_E) (ln0 : Int32) (lv0 : Int32) (lk0 : Int32) (fd0 : Int32) (fF : Nat → Int32) (hI : Inv8 g idn pe ct) (h10 : ct 10 = .inr (6, [.int ln0, .int lv0, .int lk0, .int fd0, .ref 11, .ref 12, .ref 13, .ref 14, .ref 15, .ref 16])) (h12 : ct 12 = .inl (g.2 0, 8, .inl fF)) : DM l g pM false yX6_weigh cX6_weigh 3 none ({ frames := 2, cells := 0, slots := 0, locals := 43 }) (fun (ct2 : Nat → va_E) (rr : Option Value) => rr = none ∧ Inv8 g idn pe ct2 ∧ (ct2 10 = .inr (6, [.int ln0, .int lv0, .int (wLak ln0 lv0 fF), .int fd0, .ref 11, .ref 12, .ref 13, .ref 14, .ref 15, .ref 16])) ∧ (∃ fM2 : Nat → Int32, ct2 13 = .inl (g.2 0, 8, .inl fM2) ∧ ∀ j, j < 8 → fM2 j = wMay ln0 lv0 fF j) ∧ (ct2 11 = ct 11) ∧ (ct2 12 = ct 12) ∧ (ct2 15 = ct 15) ∧ (ct2 16 = ct 16)) ct [.ref 10] := by
  refine DM.K (fun K hK => ?_)
  refine GW.met (own := RX6) (loc := [(0, .ref 10)]) (by decide) rfl rfl (Nat.le_of_ble_eq_true rfl) ?_
  have hpe0 := hI.1
  obtain ⟨lns2, liv3, lak4, fnd5, h6, h7, h8, h9, hs1⟩ := a8_10 hI
  have hs10 := h10
  cases (h10.symm.trans hs1)
  obtain ⟨f12, hp13, hs11⟩ := a8_12 hI
  have hs14 := h12
  cases (h12.symm.trans hs11)
  have hc11 : ct 11 = ct 11 := rfl
  have hc12 : ct 12 = ct 12 := rfl
  have hc15 : ct 15 = ct 15 := rfl
  have hc16 : ct 16 = ct 16 := rfl
  refine dv_aload_n dX6_weigh_0 rfl 0 rfl ?_
  refine dv_iconst (v := 0) dX6_weigh_1 (by decide) ?_
  refine dv_put (ci := 6) (v := .int 0) (ty := .int) (C := RX6) (T := TX6) (N := 10) ⟨by decide, rfl⟩ hs10 rfl inG6 tyX6 tyX6_ok nmX6 2 (by decide) mm_119 rfl (by decide +kernel) (fun _ => rfl) (fun _ => rfl) (Nat.le_of_ble_eq_true rfl) dX6_weigh_2 (en := .inr (6, [.int ln0, .int lv0, .int 0, .int fd0, .ref 11, .ref 12, .ref 13, .ref 14, .ref 15, .ref 16])) rfl (fun ct15 ec16 => ?_)
  have hI : Inv8 g idn pe ct15 := by rw [ec16]; exact up8 hI (i8_10 ⟨(ln0 : Int32), (lv0 : Int32), (0 : Int32), (fd0 : Int32), (by first | omega | decide), (by first | omega | decide), (by first | omega | decide), (by first | omega | decide), rfl⟩)
  have hc11 : ct15 11 = ct 11 := by rw [ec16]; exact (va_up_ne _ _ (by omega)).trans hc11
  have hc12 : ct15 12 = ct 12 := by rw [ec16]; exact (va_up_ne _ _ (by omega)).trans hc12
  have hc15 : ct15 15 = ct 15 := by rw [ec16]; exact (va_up_ne _ _ (by omega)).trans hc15
  have hc16 : ct15 16 = ct 16 := by rw [ec16]; exact (va_up_ne _ _ (by omega)).trans hc16
  have hs17 : ct15 12 = .inl (g.2 0, 8, .inl fF) := by rw [ec16, va_up_ne _ _ (by omega)]; exact hs14
  have hs18 : ct15 10 = .inr (6, [.int ln0, .int lv0, .int 0, .int fd0, .ref 11, .ref 12, .ref 13, .ref 14, .ref 15, .ref 16]) := by rw [ec16]; exact va_up_self _ _ _
  refine dv_iconst (v := 0) dX6_weigh_5 (by decide) ?_
  refine dv_istore_n (lv' := [(1, .int 0), (0, .ref 10)]) dX6_weigh_6 rfl (by decide) rfl ?_
  obtain ⟨f20, hp21, hs19⟩ := a8_13 hI
  have loop7 : ∀ (n7 : Nat) (v1_7 : Int32) (fN22 : Nat → Int32) (ct24 : Nat → va_E), ((8 - v1_7.toInt : Int).toNat < n7) → (0 ≤ v1_7.toInt ∧ v1_7.toInt ≤ 8) → (∀ j : Nat, j < 8 → (j : Int) < v1_7.toInt → fN22 j = fF j) → (ct24 11 = ct 11) → (ct24 12 = ct 12) → (ct24 15 = ct 15) → (ct24 16 = ct 16) → (ct24 13 = .inl (g.2 0, 8, .inl fN22)) → (ct24 10 = .inr (6, [.int ln0, .int lv0, .int 0, .int fd0, .ref 11, .ref 12, .ref 13, .ref 14, .ref 15, .ref 16])) → (Inv8 g idn pe ct24) → GW l g pM pM false yX6_weigh cX6_weigh 3 none RX6 ({ frames := 2, cells := 0, slots := 0, locals := 43 }) K 0 0 ct24 7 [(1, .int v1_7), (0, .ref 10)] [] := by
    intro n7
    induction n7 with
    | zero =>
      intro v1_7 fN22 ct24 hn7 b1_7 j0_7 hc11 hc12 hc15 hc16 hq23 kp10_7 hI
      exact absurd hn7 (Nat.not_lt_zero _)
    | succ n7 ih7 =>
      intro v1_7 fN22 ct24 hn7 b1_7 j0_7 hc11 hc12 hc15 hc16 hq23 kp10_7 hI
      have hs25 : ct24 12 = .inl (g.2 0, 8, .inl fF) := hc12.trans hs14
      obtain ⟨f27, hp28, hs26⟩ := a8_13 hI
      have hs29 := hq23
      cases (hq23.symm.trans hs26)
      refine dv_iload_n dX6_weigh_7 rfl 0 rfl ?_
      refine dv_bipush (v := 8) dX6_weigh_8 (by decide) ?_
      refine dv_icmp_ge (tgt := 31) dX6_weigh_10 (by decide) (fun c30 => ?_) (fun c30 => ?_)
      · skip
        have c30 : 8 ≤ v1_7.toInt := (z_le (by decide : (8 : Int32).toInt = 8) rfl).mp c30
        obtain ⟨f32, hp33, hs31⟩ := a8_14 hI
        have hw0 : wInv ln0 lv0 fF 1 0 fN22 f32 := wInv_1 (fun j hj => j0_7 j hj (by omega)) (hp33 0 (by decide) rfl)
        refine dv_iconst (v := 0) dX6_weigh_31 (by decide) ?_
        refine dv_istore_n (lv' := [(1, .int 0), (0, .ref 10)]) dX6_weigh_32 rfl (by decide) rfl ?_
        have loop33 : ∀ (n33 : Nat) (v1_33 : Int32) (lk34 : Int32) (fN36 : Nat → Int32) (fG38 : Nat → Int32) (ct40 : Nat → va_E), ((8 - v1_33.toInt : Int).toNat < n33) → (0 ≤ v1_33.toInt ∧ v1_33.toInt ≤ 8) → (v1_33.toInt ≤ ln0.toInt) → (wInv ln0 lv0 fF (2 ^ v1_33.toInt.toNat) lk34 fN36 fG38) → (ct40 11 = ct 11) → (ct40 12 = ct 12) → (ct40 15 = ct 15) → (ct40 16 = ct 16) → (ct40 10 = .inr (6, [.int ln0, .int lv0, .int lk34, .int fd0, .ref 11, .ref 12, .ref 13, .ref 14, .ref 15, .ref 16])) → (ct40 13 = .inl (g.2 0, 8, .inl fN36)) → (ct40 14 = .inl (g.2 0, 256, .inl fG38)) → (Inv8 g idn pe ct40) → GW l g pM pM false yX6_weigh cX6_weigh 3 none RX6 ({ frames := 2, cells := 0, slots := 0, locals := 43 }) K 0 0 ct40 33 [(1, .int v1_33), (0, .ref 10)] [] := by
          intro n33
          induction n33 with
          | zero =>
            intro v1_33 lk34 fN36 fG38 ct40 hn33 b1_33 j0_33 j1_33 hc11 hc12 hc15 hc16 hq35 hq37 hq39 hI
            exact absurd hn33 (Nat.not_lt_zero _)
          | succ n33 ih33 =>
            intro v1_33 lk34 fN36 fG38 ct40 hn33 b1_33 j0_33 j1_33 hc11 hc12 hc15 hc16 hq35 hq37 hq39 hI
            have hs41 : ct40 12 = .inl (g.2 0, 8, .inl fF) := hc12.trans hs14
            obtain ⟨lns43, liv44, lak45, fnd46, h47, h48, h49, h50, hs42⟩ := a8_10 hI
            have hs51 := hq35
            cases (hq35.symm.trans hs42)
            obtain ⟨f53, hp54, hs52⟩ := a8_13 hI
            have hs55 := hq37
            cases (hq37.symm.trans hs52)
            obtain ⟨f57, hp58, hs56⟩ := a8_14 hI
            have hs59 := hq39
            cases (hq39.symm.trans hs56)
            refine dv_iload_n dX6_weigh_33 rfl 0 rfl ?_
            refine dv_aload_n dX6_weigh_34 rfl 1 rfl ?_
            refine dv_get (ci := 6) (v := .int ln0) (C := RX6) (T := TX6) (N := 10) ⟨by decide, rfl⟩ hs51 rfl inG6 0 (by decide) mm_115 rfl dX6_weigh_35 ?_
            refine dv_icmp_ge (tgt := 106) dX6_weigh_38 (by decide) (fun c60 => ?_) (fun c60 => ?_)
            · skip
              have c60 : ln0.toInt ≤ v1_33.toInt := (z_le rfl rfl).mp c60
              have hlk9 : lk34 = wLak ln0 lv0 fF := by
                unfold wLak
                rw [show ln0.toInt.toNat = v1_33.toInt.toNat by omega]
                exact j1_33.1
              have hmy9 : ∀ j, j < 8 → fN36 j = (wAll ln0 lv0 fF (2 ^ ln0.toInt.toNat)).2 j := by
                rw [show ln0.toInt.toNat = v1_33.toInt.toNat by omega]
                exact j1_33.2.1
              refine dv_iconst (v := 0) dX6_weigh_106 (by decide) ?_
              refine dv_istore_n (lv' := [(1, .int 0), (0, .ref 10)]) dX6_weigh_107 rfl (by decide) rfl ?_
              have loop108 : ∀ (n108 : Nat) (v1_108 : Int32) (fN61 : Nat → Int32) (ct63 : Nat → va_E), ((8 - v1_108.toInt : Int).toNat < n108) → (0 ≤ v1_108.toInt ∧ v1_108.toInt ≤ 8) → (∀ j : Nat, j < 8 → fN61 j = if ¬ lk34.toInt = 0 ∧ (j : Int) < v1_108.toInt then 0 else fN36 j) → (ct63 11 = ct 11) → (ct63 12 = ct 12) → (ct63 15 = ct 15) → (ct63 16 = ct 16) → (ct63 13 = .inl (g.2 0, 8, .inl fN61)) → (ct63 10 = .inr (6, [.int ln0, .int lv0, .int lk34, .int fd0, .ref 11, .ref 12, .ref 13, .ref 14, .ref 15, .ref 16])) → (Inv8 g idn pe ct63) → GW l g pM pM false yX6_weigh cX6_weigh 3 none RX6 ({ frames := 2, cells := 0, slots := 0, locals := 43 }) K 0 0 ct63 108 [(1, .int v1_108), (0, .ref 10)] [] := by
                intro n108
                induction n108 with
                | zero =>
                  intro v1_108 fN61 ct63 hn108 b1_108 j0_108 hc11 hc12 hc15 hc16 hq62 kp10_108 hI
                  exact absurd hn108 (Nat.not_lt_zero _)
                | succ n108 ih108 =>
                  intro v1_108 fN61 ct63 hn108 b1_108 j0_108 hc11 hc12 hc15 hc16 hq62 kp10_108 hI
                  have hs64 : ct63 12 = .inl (g.2 0, 8, .inl fF) := hc12.trans hs14
                  obtain ⟨f66, hp67, hs65⟩ := a8_13 hI
                  have hs68 := hq62
                  cases (hq62.symm.trans hs65)
                  refine dv_iload_n dX6_weigh_108 rfl 0 rfl ?_
                  refine dv_bipush (v := 8) dX6_weigh_109 (by decide) ?_
                  refine dv_icmp_ge (tgt := 134) dX6_weigh_111 (by decide) (fun c69 => ?_) (fun c69 => ?_)
                  · skip
                    have c69 : 8 ≤ v1_108.toInt := (z_le (by decide : (8 : Int32).toInt = 8) rfl).mp c69
                    exact dv_vret dX6_weigh_134 rfl (by first | exact Nat.zero_le _ | decide) (by first | exact Nat.zero_le _ | decide) (by subst hK; exact ⟨rfl, hI, (by rw [← hlk9]; exact kp10_108), (⟨_, hs68, fun j hj => by
                        unfold wMay
                        rw [← hlk9, ← hmy9 j hj, j0_108 j hj]
                        by_cases c : lk34.toInt = 0
                        · rw [if_pos c, if_neg (fun q => q.1 c)]
                        · rw [if_neg c, if_pos ⟨c, by omega⟩]⟩), (by assumption), (by assumption), (by assumption), (by assumption)⟩)
                  · skip
                    have c69 : ¬ (8 ≤ v1_108.toInt) := fun q => c69 ((z_le (by decide : (8 : Int32).toInt = 8) rfl).mpr q)
                    refine dv_aload_n dX6_weigh_114 rfl 1 rfl ?_
                    refine dv_get (ci := 6) (v := .int lk34) (C := RX6) (T := TX6) (N := 10) ⟨by decide, rfl⟩ kp10_108 rfl inG6 2 (by decide) mm_119 rfl dX6_weigh_115 ?_
                    refine dv_if_eq (tgt := 134) dX6_weigh_118 (by decide) (fun c70 => ?_) (fun c70 => ?_)
                    · skip
                      have c70 : lk34.toInt = 0 := (z_eq rfl (by decide : (0 : Int32).toInt = 0)).mp c70
                      exact dv_vret dX6_weigh_134 rfl (by first | exact Nat.zero_le _ | decide) (by first | exact Nat.zero_le _ | decide) (by subst hK; exact ⟨rfl, hI, (by rw [← hlk9]; exact kp10_108), (⟨_, hs68, fun j hj => by
                          unfold wMay
                          rw [← hlk9, ← hmy9 j hj, j0_108 j hj]
                          by_cases c : lk34.toInt = 0
                          · rw [if_pos c, if_neg (fun q => q.1 c)]
                          · rw [if_neg c, if_pos ⟨c, by omega⟩]⟩), (by assumption), (by assumption), (by assumption), (by assumption)⟩)
                    · skip
                      have c70 : ¬ (lk34.toInt = 0) := fun q => c70 ((z_eq rfl (by decide : (0 : Int32).toInt = 0)).mpr q)
                      refine dv_aload_n dX6_weigh_121 rfl 1 rfl ?_
                      refine dv_get (ci := 6) (v := .ref 13) (C := RX6) (T := TX6) (N := 10) ⟨by decide, rfl⟩ kp10_108 rfl inG6 6 (by decide) mm_127 rfl dX6_weigh_122 ?_
                      refine dv_iload_n dX6_weigh_125 rfl 0 rfl ?_
                      refine dv_iconst (v := 0) dX6_weigh_126 (by decide) ?_
                      refine dv_iast 0 ⟨by decide, rfl⟩ hs68 rfl (z_in rfl (by omega) (by omega)) dX6_weigh_127 (en := .inl (g.2 0, 8, .inl (upd fN61 (Int32.toNatClampNeg v1_108) 0))) rfl (fun ct71 ec72 => ?_)
                      have hp73 : ∀ j : Nat, j < 8 → (fun x : Int32 => 0 ≤ x.toInt ∧ x.toInt ≤ 65535) ((upd fN61 (Int32.toNatClampNeg v1_108) 0) j) := fun j hj => by
                        unfold upd
                        by_cases q : j = Int32.toNatClampNeg v1_108
                        · rw [if_pos q]; exact (show 0 ≤ (0 : Int32).toInt ∧ (0 : Int32).toInt ≤ 65535 from (by first | omega | decide))
                        · rw [if_neg q]; exact hp67 j hj
                      have hI : Inv8 g idn pe ct71 := by rw [ec72]; exact up8 hI (i8_13 ⟨_, hp73, rfl⟩)
                      have hc11 : ct71 11 = ct 11 := by rw [ec72]; exact (va_up_ne _ _ (by omega)).trans hc11
                      have hc12 : ct71 12 = ct 12 := by rw [ec72]; exact (va_up_ne _ _ (by omega)).trans hc12
                      have hc15 : ct71 15 = ct 15 := by rw [ec72]; exact (va_up_ne _ _ (by omega)).trans hc15
                      have hc16 : ct71 16 = ct 16 := by rw [ec72]; exact (va_up_ne _ _ (by omega)).trans hc16
                      have hs74 : ct71 10 = .inr (6, [.int ln0, .int lv0, .int lk34, .int fd0, .ref 11, .ref 12, .ref 13, .ref 14, .ref 15, .ref 16]) := by rw [ec72, va_up_ne _ _ (by omega)]; exact kp10_108
                      have hs75 : ct71 12 = .inl (g.2 0, 8, .inl fF) := by rw [ec72, va_up_ne _ _ (by omega)]; exact hs64
                      have hs76 : ct71 13 = .inl (g.2 0, 8, .inl (upd fN61 (Int32.toNatClampNeg v1_108) 0)) := by rw [ec72]; exact va_up_self _ _ _
                      obtain ⟨x77, ex77⟩ : ∃ y : Int32, y = v1_108 + 1 := ⟨_, rfl⟩
                      have tx77 : x77.toInt = v1_108.toInt + 1 := by rw [ex77]; exact z_add rfl (by decide : (1 : Int32).toInt = 1) (by omega) (by omega)
                      refine dv_iinc (v := x77) (lv' := [(1, .int x77), (0, .ref 10)]) dX6_weigh_128 (k := 0) rfl (by rw [ex77]; rfl) (by decide) rfl ?_
                      refine dv_goto (tgt := 108) dX6_weigh_131 (by decide) ?_
                      exact ih108 x77 (upd fN61 (Int32.toNatClampNeg v1_108) 0) ct71 (by omega) (by omega) (fun j hj => by
                          unfold upd
                          by_cases q : j = Int32.toNatClampNeg v1_108
                          · rw [if_pos q, if_pos ⟨by omega, by have := z_clI (x := v1_108) (by omega); omega⟩]
                          · rw [if_neg q, j0_108 j hj]
                            by_cases c : ¬ lk34.toInt = 0 ∧ (j : Int) < v1_108.toInt
                            · rw [if_pos c, if_pos ⟨c.1, by omega⟩]
                            · rw [if_neg c, if_neg (fun z => c ⟨z.1, by have := z_clI (x := v1_108) (by omega); omega⟩)]) hc11 hc12 hc15 hc16 hs76 hs74 hI
              exact loop108 ((8 - (0 : Int32).toInt : Int).toNat + 1) (0 : Int32) fN36 ct40 (by omega) (by first | omega | decide | (have hz0 : (0 : Int32).toInt = 0 := (by decide); have hz1 : (1 : Int32).toInt = 1 := (by decide); omega)) (fun j hj => by rw [if_neg (fun q => by have q2 := q.2; have := (by decide : (0 : Int32).toInt = 0); omega)]) hc11 hc12 hc15 hc16 hs55 hs51 hI
            · skip
              have c60 : ¬ (ln0.toInt ≤ v1_33.toInt) := fun q => c60 ((z_le rfl rfl).mpr q)
              refine dv_aload_n dX6_weigh_41 rfl 1 rfl ?_
              refine dv_get (ci := 6) (v := .int lv0) (C := RX6) (T := TX6) (N := 10) ⟨by decide, rfl⟩ hs51 rfl inG6 1 (by decide) mm_117 rfl dX6_weigh_42 ?_
              refine dv_iload_n dX6_weigh_45 rfl 0 rfl ?_
              refine dv_ishr dX6_weigh_46 ?_
              refine dv_topi (fun x78 ex78 => ?_)
              have tx78 := z_shr (x := lv0) rfl (by omega) v1_33
              rw [← ex78] at tx78
              refine dv_iconst (v := 1) dX6_weigh_47 (by decide) ?_
              refine dv_iand dX6_weigh_48 ?_
              refine dv_topi (fun x79 ex79 => ?_)
              have tx79 := z_andr (x := x78) (y := 1) (by decide : (1 : Int32).toInt = 1) (by omega)
              rw [← ex79] at tx79
              refine dv_iconst (v := 1) dX6_weigh_49 (by decide) ?_
              refine dv_icmp_ne (tgt := 100) dX6_weigh_50 (by decide) (fun c80 => ?_) (fun c80 => ?_)
              · skip
                have c80 : ¬ (x79.toInt = 1) := fun q => c80 ((z_eq rfl (by decide : (1 : Int32).toInt = 1)).mpr q)
                have hbit : ib lv0 (v1_33.toInt.toNat) = false := by
                  rcases zb_ask (x := lv0) (y := v1_33) (p := v1_33.toInt.toNat) (by omega) (by omega) (by omega) (ex79.trans (by rw [ex78])) with ⟨q1, q2⟩ | ⟨q1, q2⟩
                  · first | exact q2 | (exfalso; omega)
                  · first | exact q2 | (exfalso; omega)
                obtain ⟨x81, ex81⟩ : ∃ y : Int32, y = v1_33 + 1 := ⟨_, rfl⟩
                have tx81 : x81.toInt = v1_33.toInt + 1 := by rw [ex81]; exact z_add rfl (by decide : (1 : Int32).toInt = 1) (by omega) (by omega)
                refine dv_iinc (v := x81) (lv' := [(1, .int x81), (0, .ref 10)]) dX6_weigh_100 (k := 0) rfl (by rw [ex81]; rfl) (by decide) rfl ?_
                refine dv_goto (tgt := 33) dX6_weigh_103 (by decide) ?_
                exact ih33 x81 lk34 fN36 fG38 ct40 (by omega) (by omega) (by omega) (by rw [show x81.toInt.toNat = v1_33.toInt.toNat + 1 by omega]; exact wInv_dead j1_33 (by omega) hbit) hc11 hc12 hc15 hc16 hs51 hs55 hs59 hI
              · skip
                have c80 : x79.toInt = 1 := (z_eq rfl (by decide : (1 : Int32).toInt = 1)).mp c80
                have hbit : ib lv0 (v1_33.toInt.toNat) = true := by
                  rcases zb_ask (x := lv0) (y := v1_33) (p := v1_33.toInt.toNat) (by omega) (by omega) (by omega) (ex79.trans (by rw [ex78])) with ⟨q1, q2⟩ | ⟨q1, q2⟩
                  · first | exact q2 | (exfalso; omega)
                  · first | exact q2 | (exfalso; omega)
                have hp33 := hp_le (v1_33.toInt.toNat) (by omega)
                have hps := hp_succ (v1_33.toInt.toNat)
                have hps8 := hp_le (v1_33.toInt.toNat + 1) (by omega)
                refine dv_iconst (v := 0) dX6_weigh_53 (by decide) ?_
                refine dv_istore_n (lv' := [(2, .int 0), (1, .int v1_33), (0, .ref 10)]) dX6_weigh_54 rfl (by decide) rfl ?_
                have loop55 : ∀ (n55 : Nat) (v2_55 : Int32) (lk82 : Int32) (fN84 : Nat → Int32) (fG86 : Nat → Int32) (ct88 : Nat → va_E), ((128 - v2_55.toInt : Int).toNat < n55) → (0 ≤ v2_55.toInt ∧ v2_55.toInt ≤ 128) → (v2_55.toInt ≤ ((2 ^ v1_33.toInt.toNat : Nat) : Int)) → (wInv ln0 lv0 fF (2 ^ v1_33.toInt.toNat + v2_55.toInt.toNat) lk82 fN84 fG86) → (ct88 11 = ct 11) → (ct88 12 = ct 12) → (ct88 15 = ct 15) → (ct88 16 = ct 16) → (ct88 10 = .inr (6, [.int ln0, .int lv0, .int lk82, .int fd0, .ref 11, .ref 12, .ref 13, .ref 14, .ref 15, .ref 16])) → (ct88 13 = .inl (g.2 0, 8, .inl fN84)) → (ct88 14 = .inl (g.2 0, 256, .inl fG86)) → (Inv8 g idn pe ct88) → GW l g pM pM false yX6_weigh cX6_weigh 3 none RX6 ({ frames := 2, cells := 0, slots := 0, locals := 43 }) K 0 0 ct88 55 [(2, .int v2_55), (1, .int v1_33), (0, .ref 10)] [] := by
                  intro n55
                  induction n55 with
                  | zero =>
                    intro v2_55 lk82 fN84 fG86 ct88 hn55 b2_55 j0_55 j1_55 hc11 hc12 hc15 hc16 hq83 hq85 hq87 hI
                    exact absurd hn55 (Nat.not_lt_zero _)
                  | succ n55 ih55 =>
                    intro v2_55 lk82 fN84 fG86 ct88 hn55 b2_55 j0_55 j1_55 hc11 hc12 hc15 hc16 hq83 hq85 hq87 hI
                    have hs89 : ct88 12 = .inl (g.2 0, 8, .inl fF) := hc12.trans hs14
                    obtain ⟨lns91, liv92, lak93, fnd94, h95, h96, h97, h98, hs90⟩ := a8_10 hI
                    have hs99 := hq83
                    cases (hq83.symm.trans hs90)
                    obtain ⟨f101, hp102, hs100⟩ := a8_13 hI
                    have hs103 := hq85
                    cases (hq85.symm.trans hs100)
                    obtain ⟨f105, hp106, hs104⟩ := a8_14 hI
                    have hs107 := hq87
                    cases (hq87.symm.trans hs104)
                    refine dv_iload_n dX6_weigh_55 rfl 0 rfl ?_
                    refine dv_iconst (v := 1) dX6_weigh_56 (by decide) ?_
                    refine dv_iload_n dX6_weigh_57 rfl 1 rfl ?_
                    refine dv_ishl dX6_weigh_58 ?_
                    refine dv_topi (fun x108 ex108 => ?_)
                    have tx108 := z_shl1e (y := v1_33) (by omega) (by omega)
                    rw [← ex108] at tx108
                    have ux108 := z_shl1 (y := v1_33) rfl (by omega) (k := 7) (by decide) (by omega)
                    rw [← ex108] at ux108
                    refine dv_icmp_ge (tgt := 100) dX6_weigh_59 (by decide) (fun c109 => ?_) (fun c109 => ?_)
                    · skip
                      have c109 : x108.toInt ≤ v2_55.toInt := (z_le rfl rfl).mp c109
                      obtain ⟨x110, ex110⟩ : ∃ y : Int32, y = v1_33 + 1 := ⟨_, rfl⟩
                      have tx110 : x110.toInt = v1_33.toInt + 1 := by rw [ex110]; exact z_add rfl (by decide : (1 : Int32).toInt = 1) (by omega) (by omega)
                      refine dv_iinc (v := x110) (lv' := [(1, .int x110), (2, .int v2_55), (0, .ref 10)]) dX6_weigh_100 (k := 1) rfl (by rw [ex110]; rfl) (by decide) rfl ?_
                      refine dv_goto (tgt := 33) dX6_weigh_103 (by decide) ?_
                      refine dv_sub (loc2 := [(1, .int x110), (0, .ref 10)]) [0, 2] rfl ?_
                      exact ih33 x110 lk82 fN84 fG86 ct88 (by omega) (by omega) (by omega) (by rw [show x110.toInt.toNat = v1_33.toInt.toNat + 1 by omega, hps, show 2 ^ v1_33.toInt.toNat + 2 ^ v1_33.toInt.toNat = 2 ^ v1_33.toInt.toNat + v2_55.toInt.toNat by omega]; exact j1_55) hc11 hc12 hc15 hc16 hs99 hs103 hs107 hI
                    · skip
                      have c109 : ¬ (x108.toInt ≤ v2_55.toInt) := fun q => c109 ((z_le rfl rfl).mpr q)
                      refine dv_aload_n dX6_weigh_62 rfl 2 rfl ?_
                      refine dv_get (ci := 6) (v := .ref 14) (C := RX6) (T := TX6) (N := 10) ⟨by decide, rfl⟩ hs99 rfl inG6 7 (by decide) mm_129 rfl dX6_weigh_63 ?_
                      refine dv_iload_n dX6_weigh_66 rfl 0 rfl ?_
                      refine dv_iconst (v := 1) dX6_weigh_67 (by decide) ?_
                      refine dv_iload_n dX6_weigh_68 rfl 1 rfl ?_
                      refine dv_ishl dX6_weigh_69 ?_
                      refine dv_topi (fun x111 ex111 => ?_)
                      have tx111 := z_shl1e (y := v1_33) (by omega) (by omega)
                      rw [← ex111] at tx111
                      have ux111 := z_shl1 (y := v1_33) rfl (by omega) (k := 7) (by decide) (by omega)
                      rw [← ex111] at ux111
                      refine dv_ior dX6_weigh_70 ?_
                      refine dv_topi (fun x112 ex112 => ?_)
                      have nx112 : x112 = nI (v2_55.toInt.toNat + 2 ^ v1_33.toInt.toNat) := by
                        have h1 := z_orS (v1_33.toInt.toNat) (by omega) (v2_55.toInt.toNat) (by omega)
                        rw [← z_nI (x := v2_55) (k := v2_55.toInt.toNat) (by omega), ← z_nI (x := v1_33) (k := v1_33.toInt.toNat) (by omega)] at h1
                        rw [ex112, ex111]
                        exact h1
                      have tx112 : x112.toInt = ((v2_55.toInt.toNat + 2 ^ v1_33.toInt.toNat : Nat) : Int) := by rw [nx112]; exact nI_toInt (by omega)
                      refine dv_aload_n dX6_weigh_71 rfl 2 rfl ?_
                      refine dv_get (ci := 6) (v := .ref 14) (C := RX6) (T := TX6) (N := 10) ⟨by decide, rfl⟩ hs99 rfl inG6 7 (by decide) mm_129 rfl dX6_weigh_72 ?_
                      refine dv_iload_n dX6_weigh_75 rfl 0 rfl ?_
                      refine dv_iald 0 ⟨by decide, rfl⟩ hs107 rfl (z_in rfl (by omega) (by omega)) dX6_weigh_76 ?_
                      refine dv_topi (fun y113 ey113 => ?_)
                      have hy113 := hp106 _ (z_clt (x := v2_55) rfl (by omega) (by omega))
                      rw [← ey113] at hy113
                      have hy113 : (Int32.toNatClampNeg v2_55) = 0 → y113 = 0 := hy113
                      refine dv_aload_n dX6_weigh_77 rfl 2 rfl ?_
                      refine dv_get (ci := 6) (v := .ref 12) (C := RX6) (T := TX6) (N := 10) ⟨by decide, rfl⟩ hs99 rfl inG6 5 (by decide) mm_125 rfl dX6_weigh_78 ?_
                      refine dv_iload_n dX6_weigh_81 rfl 1 rfl ?_
                      refine dv_iald 0 ⟨by decide, rfl⟩ hs89 rfl (z_in rfl (by omega) (by omega)) dX6_weigh_82 ?_
                      refine dv_topi (fun y114 ey114 => ?_)
                      have hy114 := hp13 _ (z_clt (x := v1_33) rfl (by omega) (by omega))
                      rw [← ey114] at hy114
                      have hy114 : 0 ≤ y114.toInt ∧ y114.toInt ≤ 65535 := hy114
                      refine dv_ior dX6_weigh_83 ?_
                      refine dv_topi (fun x115 ex115 => ?_)
                      refine dv_iast 0 ⟨by decide, rfl⟩ hs107 rfl (z_in rfl (by omega) (by omega)) dX6_weigh_84 (en := .inl (g.2 0, 256, .inl (upd fG86 (Int32.toNatClampNeg x112) x115))) rfl (fun ct116 ec117 => ?_)
                      have hp118 : ∀ j : Nat, j < 256 → (fun x : Int32 => j = 0 → x = 0) ((upd fG86 (Int32.toNatClampNeg x112) x115) j) := fun j hj => by
                        unfold upd
                        by_cases q : j = Int32.toNatClampNeg x112
                        · rw [if_pos q]; exact (show j = 0 → (x115 : Int32) = 0 from (fun q0 => by exfalso; have := z_clI (x := x112) (by omega); omega))
                        · rw [if_neg q]; exact hp106 j hj
                      have hI : Inv8 g idn pe ct116 := by rw [ec117]; exact up8 hI (i8_14 ⟨_, hp118, rfl⟩)
                      have hc11 : ct116 11 = ct 11 := by rw [ec117]; exact (va_up_ne _ _ (by omega)).trans hc11
                      have hc12 : ct116 12 = ct 12 := by rw [ec117]; exact (va_up_ne _ _ (by omega)).trans hc12
                      have hc15 : ct116 15 = ct 15 := by rw [ec117]; exact (va_up_ne _ _ (by omega)).trans hc15
                      have hc16 : ct116 16 = ct 16 := by rw [ec117]; exact (va_up_ne _ _ (by omega)).trans hc16
                      have hs119 : ct116 12 = .inl (g.2 0, 8, .inl fF) := by rw [ec117, va_up_ne _ _ (by omega)]; exact hs89
                      have hs120 : ct116 10 = .inr (6, [.int ln0, .int lv0, .int lk82, .int fd0, .ref 11, .ref 12, .ref 13, .ref 14, .ref 15, .ref 16]) := by rw [ec117, va_up_ne _ _ (by omega)]; exact hs99
                      have hs121 : ct116 13 = .inl (g.2 0, 8, .inl fN84) := by rw [ec117, va_up_ne _ _ (by omega)]; exact hs103
                      have hs122 : ct116 14 = .inl (g.2 0, 256, .inl (upd fG86 (Int32.toNatClampNeg x112) x115)) := by rw [ec117]; exact va_up_self _ _ _
                      refine dv_aload_n dX6_weigh_85 rfl 2 rfl ?_
                      refine dv_iload_n dX6_weigh_86 rfl 0 rfl ?_
                      refine dv_iconst (v := 1) dX6_weigh_87 (by decide) ?_
                      refine dv_iload_n dX6_weigh_88 rfl 1 rfl ?_
                      refine dv_ishl dX6_weigh_89 ?_
                      refine dv_topi (fun x123 ex123 => ?_)
                      have tx123 := z_shl1e (y := v1_33) (by omega) (by omega)
                      rw [← ex123] at tx123
                      have ux123 := z_shl1 (y := v1_33) rfl (by omega) (k := 7) (by decide) (by omega)
                      rw [← ex123] at ux123
                      refine dv_ior dX6_weigh_90 ?_
                      refine dv_topi (fun x124 ex124 => ?_)
                      have nx124 : x124 = nI (v2_55.toInt.toNat + 2 ^ v1_33.toInt.toNat) := by
                        have h1 := z_orS (v1_33.toInt.toNat) (by omega) (v2_55.toInt.toNat) (by omega)
                        rw [← z_nI (x := v2_55) (k := v2_55.toInt.toNat) (by omega), ← z_nI (x := v1_33) (k := v1_33.toInt.toNat) (by omega)] at h1
                        rw [ex124, ex123]
                        exact h1
                      have tx124 : x124.toInt = ((v2_55.toInt.toNat + 2 ^ v1_33.toInt.toNat : Nat) : Int) := by rw [nx124]; exact nI_toInt (by omega)
                      obtain rfl : x112 = x124 := nx112.trans nx124.symm
                      refine GW.callV (n := 1) (As := [.int x112]) (rest := []) (b := 10) (f_weighSet l g pe ct116 x112 ln0 lv0 lk82 fd0 fN84 (upd fG86 (Int32.toNatClampNeg x112) x115) (by first | omega | decide) hI hs120 hs121 hs122) (fun _ h => h) rfl rfl ⟨by decide, rfl⟩ hs120 (q := (RX6, TX6, 10)) rfl mm_494 mm_496 mm_14 mm_55 mm_497 (by decide +kernel) ⟨Nat.le_of_ble_eq_true rfl, Nat.le_of_ble_eq_true rfl⟩ rfl (Nat.le_of_ble_eq_true rfl) dX6_weigh_91 (Nat.zero_le _) (Nat.zero_le _) rfl (fun ct125 rrr126 hBr126 hoff127 => ?_)
                      obtain ⟨rfl, hI, hk128, hk129, hk130, hk131, hk132, hk133, hk134⟩ := hBr126
                      refine GW.eq (S2 := []) rfl rfl rfl ?_
                      obtain ⟨lk135, elk135⟩ : ∃ z : Int32, z = if (x112 &&& (lv0 ^^^ (-1))).toInt = 0 then wLk lk82 ((upd fG86 (Int32.toNatClampNeg x112) x115) (Int32.toNatClampNeg x112)) x112 else lk82 := ⟨_, rfl⟩
                      rw [← elk135] at hk128
                      obtain ⟨fM136, hq137, hm138⟩ := hk129
                      obtain ⟨lns140, liv141, lak142, fnd143, h144, h145, h146, h147, hs139⟩ := a8_10 hI
                      have hs148 := hk128
                      cases (hk128.symm.trans hs139)
                      obtain ⟨f150, hp151, hs149⟩ := a8_13 hI
                      have hs152 := hq137
                      cases (hq137.symm.trans hs149)
                      have hc11 : ct125 11 = ct 11 := hk130.trans hc11
                      have hc12 : ct125 12 = ct 12 := hk131.trans hc12
                      have hc15 : ct125 15 = ct 15 := hk133.trans hc15
                      have hc16 : ct125 16 = ct 16 := hk134.trans hc16
                      have hs153 : ct125 12 = .inl (g.2 0, 8, .inl fF) := hk131.trans hs119
                      have hs154 : ct125 14 = .inl (g.2 0, 256, .inl (upd fG86 (Int32.toNatClampNeg x112) x115)) := hk132.trans hs122
                      obtain ⟨x155, ex155⟩ : ∃ y : Int32, y = v2_55 + 1 := ⟨_, rfl⟩
                      have tx155 : x155.toInt = v2_55.toInt + 1 := by rw [ex155]; exact z_add rfl (by decide : (1 : Int32).toInt = 1) (by omega) (by omega)
                      refine dv_iinc (v := x155) (lv' := [(2, .int x155), (1, .int v1_33), (0, .ref 10)]) dX6_weigh_94 (k := 0) rfl (by rw [ex155]; rfl) (by decide) rfl ?_
                      refine dv_goto (tgt := 55) dX6_weigh_97 (by decide) ?_
                      exact ih55 x155 lk135 fM136 (upd fG86 (Int32.toNatClampNeg x112) x115) ct125 (by omega) (by omega) (by omega) (by rw [show x155.toInt.toNat = v2_55.toInt.toNat + 1 by omega]; exact wInv_step j1_55 (by omega) (by omega) nx112 (by have := z_clI (x := x112) (by omega); omega) (by rw [ex115, ey113, ey114, z_cl (x := v2_55) (k := v2_55.toInt.toNat) (by omega), z_cl (x := v1_33) (k := v1_33.toInt.toNat) (by omega)]) (by rw [elk135, upd_same]) (fun j hj => by rw [hm138 j hj, upd_same])) hc11 hc12 hc15 hc16 hs148 hs152 hs154 hI
                exact loop55 ((128 - (0 : Int32).toInt : Int).toNat + 1) (0 : Int32) lk34 fN36 fG38 ct40 (by omega) (by first | omega | decide | (have hz0 : (0 : Int32).toInt = 0 := (by decide); have hz1 : (1 : Int32).toInt = 1 := (by decide); omega)) (by first | omega | decide | (have hz0 : (0 : Int32).toInt = 0 := (by decide); have hz1 : (1 : Int32).toInt = 1 := (by decide); omega)) (by rw [show (0 : Int32).toInt.toNat = 0 from rfl, Nat.add_zero]; exact j1_33) hc11 hc12 hc15 hc16 hs51 hs55 hs59 hI
        exact loop33 ((8 - (0 : Int32).toInt : Int).toNat + 1) (0 : Int32) (0 : Int32) fN22 f32 ct24 (by omega) (by first | omega | decide | (have hz0 : (0 : Int32).toInt = 0 := (by decide); have hz1 : (1 : Int32).toInt = 1 := (by decide); omega)) (by first | omega | decide | (have hz0 : (0 : Int32).toInt = 0 := (by decide); have hz1 : (1 : Int32).toInt = 1 := (by decide); omega)) hw0 hc11 hc12 hc15 hc16 kp10_7 hs29 hs31 hI
      · skip
        have c30 : ¬ (8 ≤ v1_7.toInt) := fun q => c30 ((z_le (by decide : (8 : Int32).toInt = 8) rfl).mpr q)
        refine dv_aload_n dX6_weigh_13 rfl 1 rfl ?_
        refine dv_get (ci := 6) (v := .ref 13) (C := RX6) (T := TX6) (N := 10) ⟨by decide, rfl⟩ kp10_7 rfl inG6 6 (by decide) mm_127 rfl dX6_weigh_14 ?_
        refine dv_iload_n dX6_weigh_17 rfl 0 rfl ?_
        refine dv_aload_n dX6_weigh_18 rfl 1 rfl ?_
        refine dv_get (ci := 6) (v := .ref 12) (C := RX6) (T := TX6) (N := 10) ⟨by decide, rfl⟩ kp10_7 rfl inG6 5 (by decide) mm_125 rfl dX6_weigh_19 ?_
        refine dv_iload_n dX6_weigh_22 rfl 0 rfl ?_
        refine dv_iald 0 ⟨by decide, rfl⟩ hs25 rfl (z_in rfl (by omega) (by omega)) dX6_weigh_23 ?_
        refine dv_topi (fun y156 ey156 => ?_)
        have hy156 := hp13 _ (z_clt (x := v1_7) rfl (by omega) (by omega))
        rw [← ey156] at hy156
        have hy156 : 0 ≤ y156.toInt ∧ y156.toInt ≤ 65535 := hy156
        refine dv_iast 0 ⟨by decide, rfl⟩ hs29 rfl (z_in rfl (by omega) (by omega)) dX6_weigh_24 (en := .inl (g.2 0, 8, .inl (upd fN22 (Int32.toNatClampNeg v1_7) y156))) rfl (fun ct157 ec158 => ?_)
        have hp159 : ∀ j : Nat, j < 8 → (fun x : Int32 => 0 ≤ x.toInt ∧ x.toInt ≤ 65535) ((upd fN22 (Int32.toNatClampNeg v1_7) y156) j) := fun j hj => by
          unfold upd
          by_cases q : j = Int32.toNatClampNeg v1_7
          · rw [if_pos q]; exact (show 0 ≤ (y156 : Int32).toInt ∧ (y156 : Int32).toInt ≤ 65535 from (by first | omega | decide))
          · rw [if_neg q]; exact hp28 j hj
        have hI : Inv8 g idn pe ct157 := by rw [ec158]; exact up8 hI (i8_13 ⟨_, hp159, rfl⟩)
        have hc11 : ct157 11 = ct 11 := by rw [ec158]; exact (va_up_ne _ _ (by omega)).trans hc11
        have hc12 : ct157 12 = ct 12 := by rw [ec158]; exact (va_up_ne _ _ (by omega)).trans hc12
        have hc15 : ct157 15 = ct 15 := by rw [ec158]; exact (va_up_ne _ _ (by omega)).trans hc15
        have hc16 : ct157 16 = ct 16 := by rw [ec158]; exact (va_up_ne _ _ (by omega)).trans hc16
        have hs160 : ct157 10 = .inr (6, [.int ln0, .int lv0, .int 0, .int fd0, .ref 11, .ref 12, .ref 13, .ref 14, .ref 15, .ref 16]) := by rw [ec158, va_up_ne _ _ (by omega)]; exact kp10_7
        have hs161 : ct157 12 = .inl (g.2 0, 8, .inl fF) := by rw [ec158, va_up_ne _ _ (by omega)]; exact hs25
        have hs162 : ct157 13 = .inl (g.2 0, 8, .inl (upd fN22 (Int32.toNatClampNeg v1_7) y156)) := by rw [ec158]; exact va_up_self _ _ _
        obtain ⟨x163, ex163⟩ : ∃ y : Int32, y = v1_7 + 1 := ⟨_, rfl⟩
        have tx163 : x163.toInt = v1_7.toInt + 1 := by rw [ex163]; exact z_add rfl (by decide : (1 : Int32).toInt = 1) (by omega) (by omega)
        refine dv_iinc (v := x163) (lv' := [(1, .int x163), (0, .ref 10)]) dX6_weigh_25 (k := 0) rfl (by rw [ex163]; rfl) (by decide) rfl ?_
        refine dv_goto (tgt := 7) dX6_weigh_28 (by decide) ?_
        exact ih7 x163 (upd fN22 (Int32.toNatClampNeg v1_7) y156) ct157 (by omega) (by first | omega | decide | (have hz0 : (0 : Int32).toInt = 0 := (by decide); have hz1 : (1 : Int32).toInt = 1 := (by decide); omega)) (fun j h8 hj => by
            unfold upd
            by_cases q : j = Int32.toNatClampNeg v1_7
            · rw [if_pos q, q, ey156]
            · rw [if_neg q]
              exact j0_7 j h8 (by have := z_clI (x := v1_7) (by omega); omega)) hc11 hc12 hc15 hc16 hs162 hs160 hI
  exact loop7 ((8 - (0 : Int32).toInt : Int).toNat + 1) (0 : Int32) f20 ct15 (by omega) (by first | omega | decide | (have hz0 : (0 : Int32).toInt = 0 := (by decide); have hz1 : (1 : Int32).toInt = 1 := (by decide); omega)) (fun j _ hj => absurd hj (by have := (by decide : (0 : Int32).toInt = 0); omega)) hc11 hc12 hc15 hc16 hs19 hs18 hI
