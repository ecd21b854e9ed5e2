def bt (n : Int32) (k : Int32) : Int32 := z_ush n k &&& 255
def apB (f : Nat → Int32) (a b c d n : Int32) : Nat → Int32 := upd (upd (upd (upd f (Int32.toNatClampNeg a) (bt n 24)) (Int32.toNatClampNeg b) (bt n 16)) (Int32.toNatClampNeg c) (bt n 8)) (Int32.toNatClampNeg d) (bt n 0)
theorem ib_set {x p : Int32} (hp : 0 ≤ p.toInt ∧ p.toInt ≤ 15) {q : Nat} (hne : ¬ q = p.toInt.toNat) (h : ib x q = false) {y s : Int32} (hs : s = (1 : Int32) <<< (p &&& 31)) (hy : y = x ||| s) : ib y q = false := by
  subst hs hy
  refine ib_no.mpr (fun z => ?_)
  rcases zb_or.mp z with z | z
  · exact ib_no.mp h z
  · exact hne ((zb_shl (p := p.toInt.toNat) (by omega) (by omega)).mp z)

set_option maxHeartbeats 4000000 in
set_option maxRecDepth 100000 in
theorem x_app0 (l : Launch) (g : zG) (pe : Int32) (ct : Nat → va_E) (n : Int32) (hI : Inv8 g idn pe ct) (hs3 : ct 3 = .inr (7, [.int 0, .ref 4])) : DM l g pT false yX7_append cX7_append 3 none ({ frames := 0, cells := 0, slots := 0, locals := 0 }) (fun (ct2 : Nat → va_E) (rr : Option Value) => rr = none ∧ Inv8 g idn pe ct2 ∧ (ct2 3 = .inr (7, [.int 4, .ref 4])) ∧ (ct2 4 = .inl (g.2 0, 200, .inl (apB (zar (ct 4)) 0 1 2 3 n)))) ct [.ref 3, .int n] := by
  refine DM.K (fun K hK => ?_)
  refine GW.met (own := RX7) (loc := [(0, .ref 3), (1, .int n)]) (by decide) rfl rfl (Nat.le_of_ble_eq_true rfl) ?_
  have hpe0 := hI.1
  obtain ⟨len2, h3, h4, hs1⟩ := a8_3 hI
  have hs5 := hs3
  cases (hs3.symm.trans hs1)
  have rg_n := z_rng n
  obtain ⟨f7, hs6⟩ := a8_4 hI
  have hz4 : zar (ct 4) = f7 := by rw [hs6]; rfl
  refine dv_bipush (v := 24) dX7_append_0 (by decide) ?_
  refine dv_istore_n (lv' := [(2, .int 24), (0, .ref 3), (1, .int n)]) dX7_append_2 rfl (by decide) rfl ?_
  refine dv_iload_n dX7_append_3 rfl 0 rfl ?_
  refine dv_if_lt (tgt := 49) dX7_append_4 (by decide) (fun c8 => ?_) (fun c8 => ?_)
  · skip
    exact absurd c8 (by decide)
  · skip
    refine dv_aload_n dX7_append_7 rfl 1 rfl ?_
    refine dv_get (ci := 7) (v := .int 0) (C := RX7) (T := TX7) (N := 2) ⟨by decide, rfl⟩ hs5 rfl inG7 0 (by decide) mm_79 rfl dX7_append_8 ?_
    refine dv_sipush (v := 200) dX7_append_11 (by decide) ?_
    refine dv_icmp_ge (tgt := 49) dX7_append_14 (by decide) (fun c9 => ?_) (fun c9 => ?_)
    · skip
      exact absurd c9 (by decide)
    · skip
      refine dv_aload_n dX7_append_17 rfl 1 rfl ?_
      refine dv_get (ci := 7) (v := .ref 4) (C := RX7) (T := TX7) (N := 2) ⟨by decide, rfl⟩ hs5 rfl inG7 1 (by decide) mm_81 rfl dX7_append_18 ?_
      refine dv_aload_n dX7_append_21 rfl 1 rfl ?_
      refine dv_get (ci := 7) (v := .int 0) (C := RX7) (T := TX7) (N := 2) ⟨by decide, rfl⟩ hs5 rfl inG7 0 (by decide) mm_79 rfl dX7_append_22 ?_
      refine dv_iload_n dX7_append_25 rfl 2 rfl ?_
      refine dv_iload_n dX7_append_26 rfl 0 rfl ?_
      refine dv_iushr dX7_append_27 rfl ?_
      refine dv_topi (fun x10 ex10 => ?_)
      refine dv_sipush (v := 255) dX7_append_28 (by decide) ?_
      refine dv_iand dX7_append_31 ?_
      refine dv_topi (fun x11 ex11 => ?_)
      have tx11 := z_andr (x := x10) (y := 255) (by decide : (255 : Int32).toInt = 255) (by omega)
      rw [← ex11] at tx11
      refine dv_iast 0 ⟨by decide, rfl⟩ hs6 rfl (z_in (by decide : (0 : Int32).toInt = 0) (by omega) (by omega)) dX7_append_32 (en := .inl (g.2 0, 200, .inl (upd f7 (Int32.toNatClampNeg 0) x11))) rfl (fun ct12 ec13 => ?_)
      have hI : Inv8 g idn pe ct12 := by rw [ec13]; exact up8 hI (i8_4 ⟨_, rfl⟩)
      have hs14 : ct12 3 = .inr (7, [.int 0, .ref 4]) := by rw [ec13, va_up_ne _ _ (by omega)]; exact hs5
      have hs15 : ct12 4 = .inl (g.2 0, 200, .inl (upd f7 (Int32.toNatClampNeg 0) x11)) := by rw [ec13]; exact va_up_self _ _ _
      refine dv_aload_n dX7_append_33 rfl 1 rfl ?_
      refine dv_dup dX7_append_34 rfl ?_
      refine dv_get (ci := 7) (v := .int 0) (C := RX7) (T := TX7) (N := 2) ⟨by decide, rfl⟩ hs14 rfl inG7 0 (by decide) mm_79 rfl dX7_append_35 ?_
      refine dv_iconst (v := 1) dX7_append_38 (by decide) ?_
      refine dv_iadd dX7_append_39 ?_
      refine dv_topi (fun x16 ex16 => ?_)
      obtain rfl : x16 = 1 := ex16.trans (by decide)
      refine dv_put (ci := 7) (v := .int 1) (ty := .int) (C := RX7) (T := TX7) (N := 2) ⟨by decide, rfl⟩ hs14 rfl inG7 tyX7 tyX7_ok nmX7 0 (by decide) mm_79 rfl (by decide +kernel) (fun _ => rfl) (fun _ => rfl) (Nat.le_of_ble_eq_true rfl) dX7_append_40 (en := .inr (7, [.int 1, .ref 4])) rfl (fun ct17 ec18 => ?_)
      have hI : Inv8 g idn pe ct17 := by rw [ec18]; exact up8 hI (i8_3 ⟨(1 : Int32), (by first | omega | decide), (by first | omega | decide), rfl⟩)
      have hs19 : ct17 4 = .inl (g.2 0, 200, .inl (upd f7 (Int32.toNatClampNeg 0) x11)) := by rw [ec18, va_up_ne _ _ (by omega)]; exact hs15
      have hs20 : ct17 3 = .inr (7, [.int 1, .ref 4]) := by rw [ec18]; exact va_up_self _ _ _
      refine dv_iinc (v := 16) (lv' := [(2, .int 16), (0, .ref 3), (1, .int n)]) dX7_append_43 (k := 0) rfl (by decide) (by decide) rfl ?_
      refine dv_goto (tgt := 3) dX7_append_46 (by decide) ?_
      refine dv_iload_n dX7_append_3 rfl 0 rfl ?_
      refine dv_if_lt (tgt := 49) dX7_append_4 (by decide) (fun c21 => ?_) (fun c21 => ?_)
      · skip
        exact absurd c21 (by decide)
      · skip
        refine dv_aload_n dX7_append_7 rfl 1 rfl ?_
        refine dv_get (ci := 7) (v := .int 1) (C := RX7) (T := TX7) (N := 2) ⟨by decide, rfl⟩ hs20 rfl inG7 0 (by decide) mm_79 rfl dX7_append_8 ?_
        refine dv_sipush (v := 200) dX7_append_11 (by decide) ?_
        refine dv_icmp_ge (tgt := 49) dX7_append_14 (by decide) (fun c22 => ?_) (fun c22 => ?_)
        · skip
          exact absurd c22 (by decide)
        · skip
          refine dv_aload_n dX7_append_17 rfl 1 rfl ?_
          refine dv_get (ci := 7) (v := .ref 4) (C := RX7) (T := TX7) (N := 2) ⟨by decide, rfl⟩ hs20 rfl inG7 1 (by decide) mm_81 rfl dX7_append_18 ?_
          refine dv_aload_n dX7_append_21 rfl 1 rfl ?_
          refine dv_get (ci := 7) (v := .int 1) (C := RX7) (T := TX7) (N := 2) ⟨by decide, rfl⟩ hs20 rfl inG7 0 (by decide) mm_79 rfl dX7_append_22 ?_
          refine dv_iload_n dX7_append_25 rfl 2 rfl ?_
          refine dv_iload_n dX7_append_26 rfl 0 rfl ?_
          refine dv_iushr dX7_append_27 rfl ?_
          refine dv_topi (fun x23 ex23 => ?_)
          refine dv_sipush (v := 255) dX7_append_28 (by decide) ?_
          refine dv_iand dX7_append_31 ?_
          refine dv_topi (fun x24 ex24 => ?_)
          have tx24 := z_andr (x := x23) (y := 255) (by decide : (255 : Int32).toInt = 255) (by omega)
          rw [← ex24] at tx24
          refine dv_iast 0 ⟨by decide, rfl⟩ hs19 rfl (z_in (by decide : (1 : Int32).toInt = 1) (by omega) (by omega)) dX7_append_32 (en := .inl (g.2 0, 200, .inl (upd (upd f7 (Int32.toNatClampNeg 0) x11) (Int32.toNatClampNeg 1) x24))) rfl (fun ct25 ec26 => ?_)
          have hI : Inv8 g idn pe ct25 := by rw [ec26]; exact up8 hI (i8_4 ⟨_, rfl⟩)
          have hs27 : ct25 3 = .inr (7, [.int 1, .ref 4]) := by rw [ec26, va_up_ne _ _ (by omega)]; exact hs20
          have hs28 : ct25 4 = .inl (g.2 0, 200, .inl (upd (upd f7 (Int32.toNatClampNeg 0) x11) (Int32.toNatClampNeg 1) x24)) := by rw [ec26]; exact va_up_self _ _ _
          refine dv_aload_n dX7_append_33 rfl 1 rfl ?_
          refine dv_dup dX7_append_34 rfl ?_
          refine dv_get (ci := 7) (v := .int 1) (C := RX7) (T := TX7) (N := 2) ⟨by decide, rfl⟩ hs27 rfl inG7 0 (by decide) mm_79 rfl dX7_append_35 ?_
          refine dv_iconst (v := 1) dX7_append_38 (by decide) ?_
          refine dv_iadd dX7_append_39 ?_
          refine dv_topi (fun x29 ex29 => ?_)
          obtain rfl : x29 = 2 := ex29.trans (by decide)
          refine dv_put (ci := 7) (v := .int 2) (ty := .int) (C := RX7) (T := TX7) (N := 2) ⟨by decide, rfl⟩ hs27 rfl inG7 tyX7 tyX7_ok nmX7 0 (by decide) mm_79 rfl (by decide +kernel) (fun _ => rfl) (fun _ => rfl) (Nat.le_of_ble_eq_true rfl) dX7_append_40 (en := .inr (7, [.int 2, .ref 4])) rfl (fun ct30 ec31 => ?_)
          have hI : Inv8 g idn pe ct30 := by rw [ec31]; exact up8 hI (i8_3 ⟨(2 : Int32), (by first | omega | decide), (by first | omega | decide), rfl⟩)
          have hs32 : ct30 4 = .inl (g.2 0, 200, .inl (upd (upd f7 (Int32.toNatClampNeg 0) x11) (Int32.toNatClampNeg 1) x24)) := by rw [ec31, va_up_ne _ _ (by omega)]; exact hs28
          have hs33 : ct30 3 = .inr (7, [.int 2, .ref 4]) := by rw [ec31]; exact va_up_self _ _ _
          refine dv_iinc (v := 8) (lv' := [(2, .int 8), (0, .ref 3), (1, .int n)]) dX7_append_43 (k := 0) rfl (by decide) (by decide) rfl ?_
          refine dv_goto (tgt := 3) dX7_append_46 (by decide) ?_
          refine dv_iload_n dX7_append_3 rfl 0 rfl ?_
          refine dv_if_lt (tgt := 49) dX7_append_4 (by decide) (fun c34 => ?_) (fun c34 => ?_)
          · skip
            exact absurd c34 (by decide)
          · skip
            refine dv_aload_n dX7_append_7 rfl 1 rfl ?_
            refine dv_get (ci := 7) (v := .int 2) (C := RX7) (T := TX7) (N := 2) ⟨by decide, rfl⟩ hs33 rfl inG7 0 (by decide) mm_79 rfl dX7_append_8 ?_
            refine dv_sipush (v := 200) dX7_append_11 (by decide) ?_
            refine dv_icmp_ge (tgt := 49) dX7_append_14 (by decide) (fun c35 => ?_) (fun c35 => ?_)
            · skip
              exact absurd c35 (by decide)
            · skip
              refine dv_aload_n dX7_append_17 rfl 1 rfl ?_
              refine dv_get (ci := 7) (v := .ref 4) (C := RX7) (T := TX7) (N := 2) ⟨by decide, rfl⟩ hs33 rfl inG7 1 (by decide) mm_81 rfl dX7_append_18 ?_
              refine dv_aload_n dX7_append_21 rfl 1 rfl ?_
              refine dv_get (ci := 7) (v := .int 2) (C := RX7) (T := TX7) (N := 2) ⟨by decide, rfl⟩ hs33 rfl inG7 0 (by decide) mm_79 rfl dX7_append_22 ?_
              refine dv_iload_n dX7_append_25 rfl 2 rfl ?_
              refine dv_iload_n dX7_append_26 rfl 0 rfl ?_
              refine dv_iushr dX7_append_27 rfl ?_
              refine dv_topi (fun x36 ex36 => ?_)
              refine dv_sipush (v := 255) dX7_append_28 (by decide) ?_
              refine dv_iand dX7_append_31 ?_
              refine dv_topi (fun x37 ex37 => ?_)
              have tx37 := z_andr (x := x36) (y := 255) (by decide : (255 : Int32).toInt = 255) (by omega)
              rw [← ex37] at tx37
              refine dv_iast 0 ⟨by decide, rfl⟩ hs32 rfl (z_in (by decide : (2 : Int32).toInt = 2) (by omega) (by omega)) dX7_append_32 (en := .inl (g.2 0, 200, .inl (upd (upd (upd f7 (Int32.toNatClampNeg 0) x11) (Int32.toNatClampNeg 1) x24) (Int32.toNatClampNeg 2) x37))) rfl (fun ct38 ec39 => ?_)
              have hI : Inv8 g idn pe ct38 := by rw [ec39]; exact up8 hI (i8_4 ⟨_, rfl⟩)
              have hs40 : ct38 3 = .inr (7, [.int 2, .ref 4]) := by rw [ec39, va_up_ne _ _ (by omega)]; exact hs33
              have hs41 : ct38 4 = .inl (g.2 0, 200, .inl (upd (upd (upd f7 (Int32.toNatClampNeg 0) x11) (Int32.toNatClampNeg 1) x24) (Int32.toNatClampNeg 2) x37)) := by rw [ec39]; exact va_up_self _ _ _
              refine dv_aload_n dX7_append_33 rfl 1 rfl ?_
              refine dv_dup dX7_append_34 rfl ?_
              refine dv_get (ci := 7) (v := .int 2) (C := RX7) (T := TX7) (N := 2) ⟨by decide, rfl⟩ hs40 rfl inG7 0 (by decide) mm_79 rfl dX7_append_35 ?_
              refine dv_iconst (v := 1) dX7_append_38 (by decide) ?_
              refine dv_iadd dX7_append_39 ?_
              refine dv_topi (fun x42 ex42 => ?_)
              obtain rfl : x42 = 3 := ex42.trans (by decide)
              refine dv_put (ci := 7) (v := .int 3) (ty := .int) (C := RX7) (T := TX7) (N := 2) ⟨by decide, rfl⟩ hs40 rfl inG7 tyX7 tyX7_ok nmX7 0 (by decide) mm_79 rfl (by decide +kernel) (fun _ => rfl) (fun _ => rfl) (Nat.le_of_ble_eq_true rfl) dX7_append_40 (en := .inr (7, [.int 3, .ref 4])) rfl (fun ct43 ec44 => ?_)
              have hI : Inv8 g idn pe ct43 := by rw [ec44]; exact up8 hI (i8_3 ⟨(3 : Int32), (by first | omega | decide), (by first | omega | decide), rfl⟩)
              have hs45 : ct43 4 = .inl (g.2 0, 200, .inl (upd (upd (upd f7 (Int32.toNatClampNeg 0) x11) (Int32.toNatClampNeg 1) x24) (Int32.toNatClampNeg 2) x37)) := by rw [ec44, va_up_ne _ _ (by omega)]; exact hs41
              have hs46 : ct43 3 = .inr (7, [.int 3, .ref 4]) := by rw [ec44]; exact va_up_self _ _ _
              refine dv_iinc (v := 0) (lv' := [(2, .int 0), (0, .ref 3), (1, .int n)]) dX7_append_43 (k := 0) rfl (by decide) (by decide) rfl ?_
              refine dv_goto (tgt := 3) dX7_append_46 (by decide) ?_
              refine dv_iload_n dX7_append_3 rfl 0 rfl ?_
              refine dv_if_lt (tgt := 49) dX7_append_4 (by decide) (fun c47 => ?_) (fun c47 => ?_)
              · skip
                exact absurd c47 (by decide)
              · skip
                refine dv_aload_n dX7_append_7 rfl 1 rfl ?_
                refine dv_get (ci := 7) (v := .int 3) (C := RX7) (T := TX7) (N := 2) ⟨by decide, rfl⟩ hs46 rfl inG7 0 (by decide) mm_79 rfl dX7_append_8 ?_
                refine dv_sipush (v := 200) dX7_append_11 (by decide) ?_
                refine dv_icmp_ge (tgt := 49) dX7_append_14 (by decide) (fun c48 => ?_) (fun c48 => ?_)
                · skip
                  exact absurd c48 (by decide)
                · skip
                  refine dv_aload_n dX7_append_17 rfl 1 rfl ?_
                  refine dv_get (ci := 7) (v := .ref 4) (C := RX7) (T := TX7) (N := 2) ⟨by decide, rfl⟩ hs46 rfl inG7 1 (by decide) mm_81 rfl dX7_append_18 ?_
                  refine dv_aload_n dX7_append_21 rfl 1 rfl ?_
                  refine dv_get (ci := 7) (v := .int 3) (C := RX7) (T := TX7) (N := 2) ⟨by decide, rfl⟩ hs46 rfl inG7 0 (by decide) mm_79 rfl dX7_append_22 ?_
                  refine dv_iload_n dX7_append_25 rfl 2 rfl ?_
                  refine dv_iload_n dX7_append_26 rfl 0 rfl ?_
                  refine dv_iushr dX7_append_27 rfl ?_
                  refine dv_topi (fun x49 ex49 => ?_)
                  refine dv_sipush (v := 255) dX7_append_28 (by decide) ?_
                  refine dv_iand dX7_append_31 ?_
                  refine dv_topi (fun x50 ex50 => ?_)
                  have tx50 := z_andr (x := x49) (y := 255) (by decide : (255 : Int32).toInt = 255) (by omega)
                  rw [← ex50] at tx50
                  refine dv_iast 0 ⟨by decide, rfl⟩ hs45 rfl (z_in (by decide : (3 : Int32).toInt = 3) (by omega) (by omega)) dX7_append_32 (en := .inl (g.2 0, 200, .inl (upd (upd (upd (upd f7 (Int32.toNatClampNeg 0) x11) (Int32.toNatClampNeg 1) x24) (Int32.toNatClampNeg 2) x37) (Int32.toNatClampNeg 3) x50))) rfl (fun ct51 ec52 => ?_)
                  have hI : Inv8 g idn pe ct51 := by rw [ec52]; exact up8 hI (i8_4 ⟨_, rfl⟩)
                  have hs53 : ct51 3 = .inr (7, [.int 3, .ref 4]) := by rw [ec52, va_up_ne _ _ (by omega)]; exact hs46
                  have hs54 : ct51 4 = .inl (g.2 0, 200, .inl (upd (upd (upd (upd f7 (Int32.toNatClampNeg 0) x11) (Int32.toNatClampNeg 1) x24) (Int32.toNatClampNeg 2) x37) (Int32.toNatClampNeg 3) x50)) := by rw [ec52]; exact va_up_self _ _ _
                  refine dv_aload_n dX7_append_33 rfl 1 rfl ?_
                  refine dv_dup dX7_append_34 rfl ?_
                  refine dv_get (ci := 7) (v := .int 3) (C := RX7) (T := TX7) (N := 2) ⟨by decide, rfl⟩ hs53 rfl inG7 0 (by decide) mm_79 rfl dX7_append_35 ?_
                  refine dv_iconst (v := 1) dX7_append_38 (by decide) ?_
                  refine dv_iadd dX7_append_39 ?_
                  refine dv_topi (fun x55 ex55 => ?_)
                  obtain rfl : x55 = 4 := ex55.trans (by decide)
                  refine dv_put (ci := 7) (v := .int 4) (ty := .int) (C := RX7) (T := TX7) (N := 2) ⟨by decide, rfl⟩ hs53 rfl inG7 tyX7 tyX7_ok nmX7 0 (by decide) mm_79 rfl (by decide +kernel) (fun _ => rfl) (fun _ => rfl) (Nat.le_of_ble_eq_true rfl) dX7_append_40 (en := .inr (7, [.int 4, .ref 4])) rfl (fun ct56 ec57 => ?_)
                  have hI : Inv8 g idn pe ct56 := by rw [ec57]; exact up8 hI (i8_3 ⟨(4 : Int32), (by first | omega | decide), (by first | omega | decide), rfl⟩)
                  have hs58 : ct56 4 = .inl (g.2 0, 200, .inl (upd (upd (upd (upd f7 (Int32.toNatClampNeg 0) x11) (Int32.toNatClampNeg 1) x24) (Int32.toNatClampNeg 2) x37) (Int32.toNatClampNeg 3) x50)) := by rw [ec57, va_up_ne _ _ (by omega)]; exact hs54
                  have hs59 : ct56 3 = .inr (7, [.int 4, .ref 4]) := by rw [ec57]; exact va_up_self _ _ _
                  refine dv_iinc (v := (-8)) (lv' := [(2, .int (-8)), (0, .ref 3), (1, .int n)]) dX7_append_43 (k := 0) rfl (by decide) (by decide) rfl ?_
                  refine dv_goto (tgt := 3) dX7_append_46 (by decide) ?_
                  refine dv_iload_n dX7_append_3 rfl 0 rfl ?_
                  refine dv_if_lt (tgt := 49) dX7_append_4 (by decide) (fun c60 => ?_) (fun c60 => ?_)
                  · skip
                    exact dv_vret dX7_append_49 rfl (by first | exact Nat.zero_le _ | decide) (by first | exact Nat.zero_le _ | decide) (by subst hK; exact ⟨rfl, hI, (hs59), (by subst_vars; exact hs58)⟩)
                  · skip
                    exact absurd c60 (by decide)

set_option maxHeartbeats 4000000 in
set_option maxRecDepth 100000 in
theorem x_app4 (l : Launch) (g : zG) (pe : Int32) (ct : Nat → va_E) (n : Int32) (hI : Inv8 g idn pe ct) (hs3 : ct 3 = .inr (7, [.int 4, .ref 4])) : DM l g pT false yX7_append cX7_append 3 none ({ frames := 0, cells := 0, slots := 0, locals := 0 }) (fun (ct2 : Nat → va_E) (rr : Option Value) => rr = none ∧ Inv8 g idn pe ct2 ∧ (ct2 3 = .inr (7, [.int 8, .ref 4])) ∧ (ct2 4 = .inl (g.2 0, 200, .inl (apB (zar (ct 4)) 4 5 6 7 n)))) ct [.ref 3, .int n] := by
  refine DM.K (fun K hK => ?_)
  refine GW.met (own := RX7) (loc := [(0, .ref 3), (1, .int n)]) (by decide) rfl rfl (Nat.le_of_ble_eq_true rfl) ?_
  have hpe0 := hI.1
  obtain ⟨len2, h3, h4, hs1⟩ := a8_3 hI
  have hs5 := hs3
  cases (hs3.symm.trans hs1)
  have rg_n := z_rng n
  obtain ⟨f7, hs6⟩ := a8_4 hI
  have hz4 : zar (ct 4) = f7 := by rw [hs6]; rfl
  refine dv_bipush (v := 24) dX7_append_0 (by decide) ?_
  refine dv_istore_n (lv' := [(2, .int 24), (0, .ref 3), (1, .int n)]) dX7_append_2 rfl (by decide) rfl ?_
  refine dv_iload_n dX7_append_3 rfl 0 rfl ?_
  refine dv_if_lt (tgt := 49) dX7_append_4 (by decide) (fun c8 => ?_) (fun c8 => ?_)
  · skip
    exact absurd c8 (by decide)
  · skip
    refine dv_aload_n dX7_append_7 rfl 1 rfl ?_
    refine dv_get (ci := 7) (v := .int 4) (C := RX7) (T := TX7) (N := 2) ⟨by decide, rfl⟩ hs5 rfl inG7 0 (by decide) mm_79 rfl dX7_append_8 ?_
    refine dv_sipush (v := 200) dX7_append_11 (by decide) ?_
    refine dv_icmp_ge (tgt := 49) dX7_append_14 (by decide) (fun c9 => ?_) (fun c9 => ?_)
    · skip
      exact absurd c9 (by decide)
    · skip
      refine dv_aload_n dX7_append_17 rfl 1 rfl ?_
      refine dv_get (ci := 7) (v := .ref 4) (C := RX7) (T := TX7) (N := 2) ⟨by decide, rfl⟩ hs5 rfl inG7 1 (by decide) mm_81 rfl dX7_append_18 ?_
      refine dv_aload_n dX7_append_21 rfl 1 rfl ?_
      refine dv_get (ci := 7) (v := .int 4) (C := RX7) (T := TX7) (N := 2) ⟨by decide, rfl⟩ hs5 rfl inG7 0 (by decide) mm_79 rfl dX7_append_22 ?_
      refine dv_iload_n dX7_append_25 rfl 2 rfl ?_
      refine dv_iload_n dX7_append_26 rfl 0 rfl ?_
      refine dv_iushr dX7_append_27 rfl ?_
      refine dv_topi (fun x10 ex10 => ?_)
      refine dv_sipush (v := 255) dX7_append_28 (by decide) ?_
      refine dv_iand dX7_append_31 ?_
      refine dv_topi (fun x11 ex11 => ?_)
      have tx11 := z_andr (x := x10) (y := 255) (by decide : (255 : Int32).toInt = 255) (by omega)
      rw [← ex11] at tx11
      refine dv_iast 0 ⟨by decide, rfl⟩ hs6 rfl (z_in (by decide : (4 : Int32).toInt = 4) (by omega) (by omega)) dX7_append_32 (en := .inl (g.2 0, 200, .inl (upd f7 (Int32.toNatClampNeg 4) x11))) rfl (fun ct12 ec13 => ?_)
      have hI : Inv8 g idn pe ct12 := by rw [ec13]; exact up8 hI (i8_4 ⟨_, rfl⟩)
      have hs14 : ct12 3 = .inr (7, [.int 4, .ref 4]) := by rw [ec13, va_up_ne _ _ (by omega)]; exact hs5
      have hs15 : ct12 4 = .inl (g.2 0, 200, .inl (upd f7 (Int32.toNatClampNeg 4) x11)) := by rw [ec13]; exact va_up_self _ _ _
      refine dv_aload_n dX7_append_33 rfl 1 rfl ?_
      refine dv_dup dX7_append_34 rfl ?_
      refine dv_get (ci := 7) (v := .int 4) (C := RX7) (T := TX7) (N := 2) ⟨by decide, rfl⟩ hs14 rfl inG7 0 (by decide) mm_79 rfl dX7_append_35 ?_
      refine dv_iconst (v := 1) dX7_append_38 (by decide) ?_
      refine dv_iadd dX7_append_39 ?_
      refine dv_topi (fun x16 ex16 => ?_)
      obtain rfl : x16 = 5 := ex16.trans (by decide)
      refine dv_put (ci := 7) (v := .int 5) (ty := .int) (C := RX7) (T := TX7) (N := 2) ⟨by decide, rfl⟩ hs14 rfl inG7 tyX7 tyX7_ok nmX7 0 (by decide) mm_79 rfl (by decide +kernel) (fun _ => rfl) (fun _ => rfl) (Nat.le_of_ble_eq_true rfl) dX7_append_40 (en := .inr (7, [.int 5, .ref 4])) rfl (fun ct17 ec18 => ?_)
      have hI : Inv8 g idn pe ct17 := by rw [ec18]; exact up8 hI (i8_3 ⟨(5 : Int32), (by first | omega | decide), (by first | omega | decide), rfl⟩)
      have hs19 : ct17 4 = .inl (g.2 0, 200, .inl (upd f7 (Int32.toNatClampNeg 4) x11)) := by rw [ec18, va_up_ne _ _ (by omega)]; exact hs15
      have hs20 : ct17 3 = .inr (7, [.int 5, .ref 4]) := by rw [ec18]; exact va_up_self _ _ _
      refine dv_iinc (v := 16) (lv' := [(2, .int 16), (0, .ref 3), (1, .int n)]) dX7_append_43 (k := 0) rfl (by decide) (by decide) rfl ?_
      refine dv_goto (tgt := 3) dX7_append_46 (by decide) ?_
      refine dv_iload_n dX7_append_3 rfl 0 rfl ?_
      refine dv_if_lt (tgt := 49) dX7_append_4 (by decide) (fun c21 => ?_) (fun c21 => ?_)
      · skip
        exact absurd c21 (by decide)
      · skip
        refine dv_aload_n dX7_append_7 rfl 1 rfl ?_
        refine dv_get (ci := 7) (v := .int 5) (C := RX7) (T := TX7) (N := 2) ⟨by decide, rfl⟩ hs20 rfl inG7 0 (by decide) mm_79 rfl dX7_append_8 ?_
        refine dv_sipush (v := 200) dX7_append_11 (by decide) ?_
        refine dv_icmp_ge (tgt := 49) dX7_append_14 (by decide) (fun c22 => ?_) (fun c22 => ?_)
        · skip
          exact absurd c22 (by decide)
        · skip
          refine dv_aload_n dX7_append_17 rfl 1 rfl ?_
          refine dv_get (ci := 7) (v := .ref 4) (C := RX7) (T := TX7) (N := 2) ⟨by decide, rfl⟩ hs20 rfl inG7 1 (by decide) mm_81 rfl dX7_append_18 ?_
          refine dv_aload_n dX7_append_21 rfl 1 rfl ?_
          refine dv_get (ci := 7) (v := .int 5) (C := RX7) (T := TX7) (N := 2) ⟨by decide, rfl⟩ hs20 rfl inG7 0 (by decide) mm_79 rfl dX7_append_22 ?_
          refine dv_iload_n dX7_append_25 rfl 2 rfl ?_
          refine dv_iload_n dX7_append_26 rfl 0 rfl ?_
          refine dv_iushr dX7_append_27 rfl ?_
          refine dv_topi (fun x23 ex23 => ?_)
          refine dv_sipush (v := 255) dX7_append_28 (by decide) ?_
          refine dv_iand dX7_append_31 ?_
          refine dv_topi (fun x24 ex24 => ?_)
          have tx24 := z_andr (x := x23) (y := 255) (by decide : (255 : Int32).toInt = 255) (by omega)
          rw [← ex24] at tx24
          refine dv_iast 0 ⟨by decide, rfl⟩ hs19 rfl (z_in (by decide : (5 : Int32).toInt = 5) (by omega) (by omega)) dX7_append_32 (en := .inl (g.2 0, 200, .inl (upd (upd f7 (Int32.toNatClampNeg 4) x11) (Int32.toNatClampNeg 5) x24))) rfl (fun ct25 ec26 => ?_)
          have hI : Inv8 g idn pe ct25 := by rw [ec26]; exact up8 hI (i8_4 ⟨_, rfl⟩)
          have hs27 : ct25 3 = .inr (7, [.int 5, .ref 4]) := by rw [ec26, va_up_ne _ _ (by omega)]; exact hs20
          have hs28 : ct25 4 = .inl (g.2 0, 200, .inl (upd (upd f7 (Int32.toNatClampNeg 4) x11) (Int32.toNatClampNeg 5) x24)) := by rw [ec26]; exact va_up_self _ _ _
          refine dv_aload_n dX7_append_33 rfl 1 rfl ?_
          refine dv_dup dX7_append_34 rfl ?_
          refine dv_get (ci := 7) (v := .int 5) (C := RX7) (T := TX7) (N := 2) ⟨by decide, rfl⟩ hs27 rfl inG7 0 (by decide) mm_79 rfl dX7_append_35 ?_
          refine dv_iconst (v := 1) dX7_append_38 (by decide) ?_
          refine dv_iadd dX7_append_39 ?_
          refine dv_topi (fun x29 ex29 => ?_)
          obtain rfl : x29 = 6 := ex29.trans (by decide)
          refine dv_put (ci := 7) (v := .int 6) (ty := .int) (C := RX7) (T := TX7) (N := 2) ⟨by decide, rfl⟩ hs27 rfl inG7 tyX7 tyX7_ok nmX7 0 (by decide) mm_79 rfl (by decide +kernel) (fun _ => rfl) (fun _ => rfl) (Nat.le_of_ble_eq_true rfl) dX7_append_40 (en := .inr (7, [.int 6, .ref 4])) rfl (fun ct30 ec31 => ?_)
          have hI : Inv8 g idn pe ct30 := by rw [ec31]; exact up8 hI (i8_3 ⟨(6 : Int32), (by first | omega | decide), (by first | omega | decide), rfl⟩)
          have hs32 : ct30 4 = .inl (g.2 0, 200, .inl (upd (upd f7 (Int32.toNatClampNeg 4) x11) (Int32.toNatClampNeg 5) x24)) := by rw [ec31, va_up_ne _ _ (by omega)]; exact hs28
          have hs33 : ct30 3 = .inr (7, [.int 6, .ref 4]) := by rw [ec31]; exact va_up_self _ _ _
          refine dv_iinc (v := 8) (lv' := [(2, .int 8), (0, .ref 3), (1, .int n)]) dX7_append_43 (k := 0) rfl (by decide) (by decide) rfl ?_
          refine dv_goto (tgt := 3) dX7_append_46 (by decide) ?_
          refine dv_iload_n dX7_append_3 rfl 0 rfl ?_
          refine dv_if_lt (tgt := 49) dX7_append_4 (by decide) (fun c34 => ?_) (fun c34 => ?_)
          · skip
            exact absurd c34 (by decide)
          · skip
            refine dv_aload_n dX7_append_7 rfl 1 rfl ?_
            refine dv_get (ci := 7) (v := .int 6) (C := RX7) (T := TX7) (N := 2) ⟨by decide, rfl⟩ hs33 rfl inG7 0 (by decide) mm_79 rfl dX7_append_8 ?_
            refine dv_sipush (v := 200) dX7_append_11 (by decide) ?_
            refine dv_icmp_ge (tgt := 49) dX7_append_14 (by decide) (fun c35 => ?_) (fun c35 => ?_)
            · skip
              exact absurd c35 (by decide)
            · skip
              refine dv_aload_n dX7_append_17 rfl 1 rfl ?_
              refine dv_get (ci := 7) (v := .ref 4) (C := RX7) (T := TX7) (N := 2) ⟨by decide, rfl⟩ hs33 rfl inG7 1 (by decide) mm_81 rfl dX7_append_18 ?_
              refine dv_aload_n dX7_append_21 rfl 1 rfl ?_
              refine dv_get (ci := 7) (v := .int 6) (C := RX7) (T := TX7) (N := 2) ⟨by decide, rfl⟩ hs33 rfl inG7 0 (by decide) mm_79 rfl dX7_append_22 ?_
              refine dv_iload_n dX7_append_25 rfl 2 rfl ?_
              refine dv_iload_n dX7_append_26 rfl 0 rfl ?_
              refine dv_iushr dX7_append_27 rfl ?_
              refine dv_topi (fun x36 ex36 => ?_)
              refine dv_sipush (v := 255) dX7_append_28 (by decide) ?_
              refine dv_iand dX7_append_31 ?_
              refine dv_topi (fun x37 ex37 => ?_)
              have tx37 := z_andr (x := x36) (y := 255) (by decide : (255 : Int32).toInt = 255) (by omega)
              rw [← ex37] at tx37
              refine dv_iast 0 ⟨by decide, rfl⟩ hs32 rfl (z_in (by decide : (6 : Int32).toInt = 6) (by omega) (by omega)) dX7_append_32 (en := .inl (g.2 0, 200, .inl (upd (upd (upd f7 (Int32.toNatClampNeg 4) x11) (Int32.toNatClampNeg 5) x24) (Int32.toNatClampNeg 6) x37))) rfl (fun ct38 ec39 => ?_)
              have hI : Inv8 g idn pe ct38 := by rw [ec39]; exact up8 hI (i8_4 ⟨_, rfl⟩)
              have hs40 : ct38 3 = .inr (7, [.int 6, .ref 4]) := by rw [ec39, va_up_ne _ _ (by omega)]; exact hs33
              have hs41 : ct38 4 = .inl (g.2 0, 200, .inl (upd (upd (upd f7 (Int32.toNatClampNeg 4) x11) (Int32.toNatClampNeg 5) x24) (Int32.toNatClampNeg 6) x37)) := by rw [ec39]; exact va_up_self _ _ _
              refine dv_aload_n dX7_append_33 rfl 1 rfl ?_
              refine dv_dup dX7_append_34 rfl ?_
              refine dv_get (ci := 7) (v := .int 6) (C := RX7) (T := TX7) (N := 2) ⟨by decide, rfl⟩ hs40 rfl inG7 0 (by decide) mm_79 rfl dX7_append_35 ?_
              refine dv_iconst (v := 1) dX7_append_38 (by decide) ?_
              refine dv_iadd dX7_append_39 ?_
              refine dv_topi (fun x42 ex42 => ?_)
              obtain rfl : x42 = 7 := ex42.trans (by decide)
              refine dv_put (ci := 7) (v := .int 7) (ty := .int) (C := RX7) (T := TX7) (N := 2) ⟨by decide, rfl⟩ hs40 rfl inG7 tyX7 tyX7_ok nmX7 0 (by decide) mm_79 rfl (by decide +kernel) (fun _ => rfl) (fun _ => rfl) (Nat.le_of_ble_eq_true rfl) dX7_append_40 (en := .inr (7, [.int 7, .ref 4])) rfl (fun ct43 ec44 => ?_)
              have hI : Inv8 g idn pe ct43 := by rw [ec44]; exact up8 hI (i8_3 ⟨(7 : Int32), (by first | omega | decide), (by first | omega | decide), rfl⟩)
              have hs45 : ct43 4 = .inl (g.2 0, 200, .inl (upd (upd (upd f7 (Int32.toNatClampNeg 4) x11) (Int32.toNatClampNeg 5) x24) (Int32.toNatClampNeg 6) x37)) := by rw [ec44, va_up_ne _ _ (by omega)]; exact hs41
              have hs46 : ct43 3 = .inr (7, [.int 7, .ref 4]) := by rw [ec44]; exact va_up_self _ _ _
              refine dv_iinc (v := 0) (lv' := [(2, .int 0), (0, .ref 3), (1, .int n)]) dX7_append_43 (k := 0) rfl (by decide) (by decide) rfl ?_
              refine dv_goto (tgt := 3) dX7_append_46 (by decide) ?_
              refine dv_iload_n dX7_append_3 rfl 0 rfl ?_
              refine dv_if_lt (tgt := 49) dX7_append_4 (by decide) (fun c47 => ?_) (fun c47 => ?_)
              · skip
                exact absurd c47 (by decide)
              · skip
                refine dv_aload_n dX7_append_7 rfl 1 rfl ?_
                refine dv_get (ci := 7) (v := .int 7) (C := RX7) (T := TX7) (N := 2) ⟨by decide, rfl⟩ hs46 rfl inG7 0 (by decide) mm_79 rfl dX7_append_8 ?_
                refine dv_sipush (v := 200) dX7_append_11 (by decide) ?_
                refine dv_icmp_ge (tgt := 49) dX7_append_14 (by decide) (fun c48 => ?_) (fun c48 => ?_)
                · skip
                  exact absurd c48 (by decide)
                · skip
                  refine dv_aload_n dX7_append_17 rfl 1 rfl ?_
                  refine dv_get (ci := 7) (v := .ref 4) (C := RX7) (T := TX7) (N := 2) ⟨by decide, rfl⟩ hs46 rfl inG7 1 (by decide) mm_81 rfl dX7_append_18 ?_
                  refine dv_aload_n dX7_append_21 rfl 1 rfl ?_
                  refine dv_get (ci := 7) (v := .int 7) (C := RX7) (T := TX7) (N := 2) ⟨by decide, rfl⟩ hs46 rfl inG7 0 (by decide) mm_79 rfl dX7_append_22 ?_
                  refine dv_iload_n dX7_append_25 rfl 2 rfl ?_
                  refine dv_iload_n dX7_append_26 rfl 0 rfl ?_
                  refine dv_iushr dX7_append_27 rfl ?_
                  refine dv_topi (fun x49 ex49 => ?_)
                  refine dv_sipush (v := 255) dX7_append_28 (by decide) ?_
                  refine dv_iand dX7_append_31 ?_
                  refine dv_topi (fun x50 ex50 => ?_)
                  have tx50 := z_andr (x := x49) (y := 255) (by decide : (255 : Int32).toInt = 255) (by omega)
                  rw [← ex50] at tx50
                  refine dv_iast 0 ⟨by decide, rfl⟩ hs45 rfl (z_in (by decide : (7 : Int32).toInt = 7) (by omega) (by omega)) dX7_append_32 (en := .inl (g.2 0, 200, .inl (upd (upd (upd (upd f7 (Int32.toNatClampNeg 4) x11) (Int32.toNatClampNeg 5) x24) (Int32.toNatClampNeg 6) x37) (Int32.toNatClampNeg 7) x50))) rfl (fun ct51 ec52 => ?_)
                  have hI : Inv8 g idn pe ct51 := by rw [ec52]; exact up8 hI (i8_4 ⟨_, rfl⟩)
                  have hs53 : ct51 3 = .inr (7, [.int 7, .ref 4]) := by rw [ec52, va_up_ne _ _ (by omega)]; exact hs46
                  have hs54 : ct51 4 = .inl (g.2 0, 200, .inl (upd (upd (upd (upd f7 (Int32.toNatClampNeg 4) x11) (Int32.toNatClampNeg 5) x24) (Int32.toNatClampNeg 6) x37) (Int32.toNatClampNeg 7) x50)) := by rw [ec52]; exact va_up_self _ _ _
                  refine dv_aload_n dX7_append_33 rfl 1 rfl ?_
                  refine dv_dup dX7_append_34 rfl ?_
                  refine dv_get (ci := 7) (v := .int 7) (C := RX7) (T := TX7) (N := 2) ⟨by decide, rfl⟩ hs53 rfl inG7 0 (by decide) mm_79 rfl dX7_append_35 ?_
                  refine dv_iconst (v := 1) dX7_append_38 (by decide) ?_
                  refine dv_iadd dX7_append_39 ?_
                  refine dv_topi (fun x55 ex55 => ?_)
                  obtain rfl : x55 = 8 := ex55.trans (by decide)
                  refine dv_put (ci := 7) (v := .int 8) (ty := .int) (C := RX7) (T := TX7) (N := 2) ⟨by decide, rfl⟩ hs53 rfl inG7 tyX7 tyX7_ok nmX7 0 (by decide) mm_79 rfl (by decide +kernel) (fun _ => rfl) (fun _ => rfl) (Nat.le_of_ble_eq_true rfl) dX7_append_40 (en := .inr (7, [.int 8, .ref 4])) rfl (fun ct56 ec57 => ?_)
                  have hI : Inv8 g idn pe ct56 := by rw [ec57]; exact up8 hI (i8_3 ⟨(8 : Int32), (by first | omega | decide), (by first | omega | decide), rfl⟩)
                  have hs58 : ct56 4 = .inl (g.2 0, 200, .inl (upd (upd (upd (upd f7 (Int32.toNatClampNeg 4) x11) (Int32.toNatClampNeg 5) x24) (Int32.toNatClampNeg 6) x37) (Int32.toNatClampNeg 7) x50)) := by rw [ec57, va_up_ne _ _ (by omega)]; exact hs54
                  have hs59 : ct56 3 = .inr (7, [.int 8, .ref 4]) := by rw [ec57]; exact va_up_self _ _ _
                  refine dv_iinc (v := (-8)) (lv' := [(2, .int (-8)), (0, .ref 3), (1, .int n)]) dX7_append_43 (k := 0) rfl (by decide) (by decide) rfl ?_
                  refine dv_goto (tgt := 3) dX7_append_46 (by decide) ?_
                  refine dv_iload_n dX7_append_3 rfl 0 rfl ?_
                  refine dv_if_lt (tgt := 49) dX7_append_4 (by decide) (fun c60 => ?_) (fun c60 => ?_)
                  · skip
                    exact dv_vret dX7_append_49 rfl (by first | exact Nat.zero_le _ | decide) (by first | exact Nat.zero_le _ | decide) (by subst hK; exact ⟨rfl, hI, (hs59), (by subst_vars; exact hs58)⟩)
                  · skip
                    exact absurd c60 (by decide)

set_option maxHeartbeats 4000000 in
set_option maxRecDepth 100000 in
theorem x_app8 (l : Launch) (g : zG) (pe : Int32) (ct : Nat → va_E) (n : Int32) (hI : Inv8 g idn pe ct) (hs3 : ct 3 = .inr (7, [.int 8, .ref 4])) : DM l g pT false yX7_append cX7_append 3 none ({ frames := 0, cells := 0, slots := 0, locals := 0 }) (fun (ct2 : Nat → va_E) (rr : Option Value) => rr = none ∧ Inv8 g idn pe ct2 ∧ (ct2 3 = .inr (7, [.int 12, .ref 4])) ∧ (ct2 4 = .inl (g.2 0, 200, .inl (apB (zar (ct 4)) 8 9 10 11 n)))) ct [.ref 3, .int n] := by
  refine DM.K (fun K hK => ?_)
  refine GW.met (own := RX7) (loc := [(0, .ref 3), (1, .int n)]) (by decide) rfl rfl (Nat.le_of_ble_eq_true rfl) ?_
  have hpe0 := hI.1
  obtain ⟨len2, h3, h4, hs1⟩ := a8_3 hI
  have hs5 := hs3
  cases (hs3.symm.trans hs1)
  have rg_n := z_rng n
  obtain ⟨f7, hs6⟩ := a8_4 hI
  have hz4 : zar (ct 4) = f7 := by rw [hs6]; rfl
  refine dv_bipush (v := 24) dX7_append_0 (by decide) ?_
  refine dv_istore_n (lv' := [(2, .int 24), (0, .ref 3), (1, .int n)]) dX7_append_2 rfl (by decide) rfl ?_
  refine dv_iload_n dX7_append_3 rfl 0 rfl ?_
  refine dv_if_lt (tgt := 49) dX7_append_4 (by decide) (fun c8 => ?_) (fun c8 => ?_)
  · skip
    exact absurd c8 (by decide)
  · skip
    refine dv_aload_n dX7_append_7 rfl 1 rfl ?_
    refine dv_get (ci := 7) (v := .int 8) (C := RX7) (T := TX7) (N := 2) ⟨by decide, rfl⟩ hs5 rfl inG7 0 (by decide) mm_79 rfl dX7_append_8 ?_
    refine dv_sipush (v := 200) dX7_append_11 (by decide) ?_
    refine dv_icmp_ge (tgt := 49) dX7_append_14 (by decide) (fun c9 => ?_) (fun c9 => ?_)
    · skip
      exact absurd c9 (by decide)
    · skip
      refine dv_aload_n dX7_append_17 rfl 1 rfl ?_
      refine dv_get (ci := 7) (v := .ref 4) (C := RX7) (T := TX7) (N := 2) ⟨by decide, rfl⟩ hs5 rfl inG7 1 (by decide) mm_81 rfl dX7_append_18 ?_
      refine dv_aload_n dX7_append_21 rfl 1 rfl ?_
      refine dv_get (ci := 7) (v := .int 8) (C := RX7) (T := TX7) (N := 2) ⟨by decide, rfl⟩ hs5 rfl inG7 0 (by decide) mm_79 rfl dX7_append_22 ?_
      refine dv_iload_n dX7_append_25 rfl 2 rfl ?_
      refine dv_iload_n dX7_append_26 rfl 0 rfl ?_
      refine dv_iushr dX7_append_27 rfl ?_
      refine dv_topi (fun x10 ex10 => ?_)
      refine dv_sipush (v := 255) dX7_append_28 (by decide) ?_
      refine dv_iand dX7_append_31 ?_
      refine dv_topi (fun x11 ex11 => ?_)
      have tx11 := z_andr (x := x10) (y := 255) (by decide : (255 : Int32).toInt = 255) (by omega)
      rw [← ex11] at tx11
      refine dv_iast 0 ⟨by decide, rfl⟩ hs6 rfl (z_in (by decide : (8 : Int32).toInt = 8) (by omega) (by omega)) dX7_append_32 (en := .inl (g.2 0, 200, .inl (upd f7 (Int32.toNatClampNeg 8) x11))) rfl (fun ct12 ec13 => ?_)
      have hI : Inv8 g idn pe ct12 := by rw [ec13]; exact up8 hI (i8_4 ⟨_, rfl⟩)
      have hs14 : ct12 3 = .inr (7, [.int 8, .ref 4]) := by rw [ec13, va_up_ne _ _ (by omega)]; exact hs5
      have hs15 : ct12 4 = .inl (g.2 0, 200, .inl (upd f7 (Int32.toNatClampNeg 8) x11)) := by rw [ec13]; exact va_up_self _ _ _
      refine dv_aload_n dX7_append_33 rfl 1 rfl ?_
      refine dv_dup dX7_append_34 rfl ?_
      refine dv_get (ci := 7) (v := .int 8) (C := RX7) (T := TX7) (N := 2) ⟨by decide, rfl⟩ hs14 rfl inG7 0 (by decide) mm_79 rfl dX7_append_35 ?_
      refine dv_iconst (v := 1) dX7_append_38 (by decide) ?_
      refine dv_iadd dX7_append_39 ?_
      refine dv_topi (fun x16 ex16 => ?_)
      obtain rfl : x16 = 9 := ex16.trans (by decide)
      refine dv_put (ci := 7) (v := .int 9) (ty := .int) (C := RX7) (T := TX7) (N := 2) ⟨by decide, rfl⟩ hs14 rfl inG7 tyX7 tyX7_ok nmX7 0 (by decide) mm_79 rfl (by decide +kernel) (fun _ => rfl) (fun _ => rfl) (Nat.le_of_ble_eq_true rfl) dX7_append_40 (en := .inr (7, [.int 9, .ref 4])) rfl (fun ct17 ec18 => ?_)
      have hI : Inv8 g idn pe ct17 := by rw [ec18]; exact up8 hI (i8_3 ⟨(9 : Int32), (by first | omega | decide), (by first | omega | decide), rfl⟩)
      have hs19 : ct17 4 = .inl (g.2 0, 200, .inl (upd f7 (Int32.toNatClampNeg 8) x11)) := by rw [ec18, va_up_ne _ _ (by omega)]; exact hs15
      have hs20 : ct17 3 = .inr (7, [.int 9, .ref 4]) := by rw [ec18]; exact va_up_self _ _ _
      refine dv_iinc (v := 16) (lv' := [(2, .int 16), (0, .ref 3), (1, .int n)]) dX7_append_43 (k := 0) rfl (by decide) (by decide) rfl ?_
      refine dv_goto (tgt := 3) dX7_append_46 (by decide) ?_
      refine dv_iload_n dX7_append_3 rfl 0 rfl ?_
      refine dv_if_lt (tgt := 49) dX7_append_4 (by decide) (fun c21 => ?_) (fun c21 => ?_)
      · skip
        exact absurd c21 (by decide)
      · skip
        refine dv_aload_n dX7_append_7 rfl 1 rfl ?_
        refine dv_get (ci := 7) (v := .int 9) (C := RX7) (T := TX7) (N := 2) ⟨by decide, rfl⟩ hs20 rfl inG7 0 (by decide) mm_79 rfl dX7_append_8 ?_
        refine dv_sipush (v := 200) dX7_append_11 (by decide) ?_
        refine dv_icmp_ge (tgt := 49) dX7_append_14 (by decide) (fun c22 => ?_) (fun c22 => ?_)
        · skip
          exact absurd c22 (by decide)
        · skip
          refine dv_aload_n dX7_append_17 rfl 1 rfl ?_
          refine dv_get (ci := 7) (v := .ref 4) (C := RX7) (T := TX7) (N := 2) ⟨by decide, rfl⟩ hs20 rfl inG7 1 (by decide) mm_81 rfl dX7_append_18 ?_
          refine dv_aload_n dX7_append_21 rfl 1 rfl ?_
          refine dv_get (ci := 7) (v := .int 9) (C := RX7) (T := TX7) (N := 2) ⟨by decide, rfl⟩ hs20 rfl inG7 0 (by decide) mm_79 rfl dX7_append_22 ?_
          refine dv_iload_n dX7_append_25 rfl 2 rfl ?_
          refine dv_iload_n dX7_append_26 rfl 0 rfl ?_
          refine dv_iushr dX7_append_27 rfl ?_
          refine dv_topi (fun x23 ex23 => ?_)
          refine dv_sipush (v := 255) dX7_append_28 (by decide) ?_
          refine dv_iand dX7_append_31 ?_
          refine dv_topi (fun x24 ex24 => ?_)
          have tx24 := z_andr (x := x23) (y := 255) (by decide : (255 : Int32).toInt = 255) (by omega)
          rw [← ex24] at tx24
          refine dv_iast 0 ⟨by decide, rfl⟩ hs19 rfl (z_in (by decide : (9 : Int32).toInt = 9) (by omega) (by omega)) dX7_append_32 (en := .inl (g.2 0, 200, .inl (upd (upd f7 (Int32.toNatClampNeg 8) x11) (Int32.toNatClampNeg 9) x24))) rfl (fun ct25 ec26 => ?_)
          have hI : Inv8 g idn pe ct25 := by rw [ec26]; exact up8 hI (i8_4 ⟨_, rfl⟩)
          have hs27 : ct25 3 = .inr (7, [.int 9, .ref 4]) := by rw [ec26, va_up_ne _ _ (by omega)]; exact hs20
          have hs28 : ct25 4 = .inl (g.2 0, 200, .inl (upd (upd f7 (Int32.toNatClampNeg 8) x11) (Int32.toNatClampNeg 9) x24)) := by rw [ec26]; exact va_up_self _ _ _
          refine dv_aload_n dX7_append_33 rfl 1 rfl ?_
          refine dv_dup dX7_append_34 rfl ?_
          refine dv_get (ci := 7) (v := .int 9) (C := RX7) (T := TX7) (N := 2) ⟨by decide, rfl⟩ hs27 rfl inG7 0 (by decide) mm_79 rfl dX7_append_35 ?_
          refine dv_iconst (v := 1) dX7_append_38 (by decide) ?_
          refine dv_iadd dX7_append_39 ?_
          refine dv_topi (fun x29 ex29 => ?_)
          obtain rfl : x29 = 10 := ex29.trans (by decide)
          refine dv_put (ci := 7) (v := .int 10) (ty := .int) (C := RX7) (T := TX7) (N := 2) ⟨by decide, rfl⟩ hs27 rfl inG7 tyX7 tyX7_ok nmX7 0 (by decide) mm_79 rfl (by decide +kernel) (fun _ => rfl) (fun _ => rfl) (Nat.le_of_ble_eq_true rfl) dX7_append_40 (en := .inr (7, [.int 10, .ref 4])) rfl (fun ct30 ec31 => ?_)
          have hI : Inv8 g idn pe ct30 := by rw [ec31]; exact up8 hI (i8_3 ⟨(10 : Int32), (by first | omega | decide), (by first | omega | decide), rfl⟩)
          have hs32 : ct30 4 = .inl (g.2 0, 200, .inl (upd (upd f7 (Int32.toNatClampNeg 8) x11) (Int32.toNatClampNeg 9) x24)) := by rw [ec31, va_up_ne _ _ (by omega)]; exact hs28
          have hs33 : ct30 3 = .inr (7, [.int 10, .ref 4]) := by rw [ec31]; exact va_up_self _ _ _
          refine dv_iinc (v := 8) (lv' := [(2, .int 8), (0, .ref 3), (1, .int n)]) dX7_append_43 (k := 0) rfl (by decide) (by decide) rfl ?_
          refine dv_goto (tgt := 3) dX7_append_46 (by decide) ?_
          refine dv_iload_n dX7_append_3 rfl 0 rfl ?_
          refine dv_if_lt (tgt := 49) dX7_append_4 (by decide) (fun c34 => ?_) (fun c34 => ?_)
          · skip
            exact absurd c34 (by decide)
          · skip
            refine dv_aload_n dX7_append_7 rfl 1 rfl ?_
            refine dv_get (ci := 7) (v := .int 10) (C := RX7) (T := TX7) (N := 2) ⟨by decide, rfl⟩ hs33 rfl inG7 0 (by decide) mm_79 rfl dX7_append_8 ?_
            refine dv_sipush (v := 200) dX7_append_11 (by decide) ?_
            refine dv_icmp_ge (tgt := 49) dX7_append_14 (by decide) (fun c35 => ?_) (fun c35 => ?_)
            · skip
              exact absurd c35 (by decide)
            · skip
              refine dv_aload_n dX7_append_17 rfl 1 rfl ?_
              refine dv_get (ci := 7) (v := .ref 4) (C := RX7) (T := TX7) (N := 2) ⟨by decide, rfl⟩ hs33 rfl inG7 1 (by decide) mm_81 rfl dX7_append_18 ?_
              refine dv_aload_n dX7_append_21 rfl 1 rfl ?_
              refine dv_get (ci := 7) (v := .int 10) (C := RX7) (T := TX7) (N := 2) ⟨by decide, rfl⟩ hs33 rfl inG7 0 (by decide) mm_79 rfl dX7_append_22 ?_
              refine dv_iload_n dX7_append_25 rfl 2 rfl ?_
              refine dv_iload_n dX7_append_26 rfl 0 rfl ?_
              refine dv_iushr dX7_append_27 rfl ?_
              refine dv_topi (fun x36 ex36 => ?_)
              refine dv_sipush (v := 255) dX7_append_28 (by decide) ?_
              refine dv_iand dX7_append_31 ?_
              refine dv_topi (fun x37 ex37 => ?_)
              have tx37 := z_andr (x := x36) (y := 255) (by decide : (255 : Int32).toInt = 255) (by omega)
              rw [← ex37] at tx37
              refine dv_iast 0 ⟨by decide, rfl⟩ hs32 rfl (z_in (by decide : (10 : Int32).toInt = 10) (by omega) (by omega)) dX7_append_32 (en := .inl (g.2 0, 200, .inl (upd (upd (upd f7 (Int32.toNatClampNeg 8) x11) (Int32.toNatClampNeg 9) x24) (Int32.toNatClampNeg 10) x37))) rfl (fun ct38 ec39 => ?_)
              have hI : Inv8 g idn pe ct38 := by rw [ec39]; exact up8 hI (i8_4 ⟨_, rfl⟩)
              have hs40 : ct38 3 = .inr (7, [.int 10, .ref 4]) := by rw [ec39, va_up_ne _ _ (by omega)]; exact hs33
              have hs41 : ct38 4 = .inl (g.2 0, 200, .inl (upd (upd (upd f7 (Int32.toNatClampNeg 8) x11) (Int32.toNatClampNeg 9) x24) (Int32.toNatClampNeg 10) x37)) := by rw [ec39]; exact va_up_self _ _ _
              refine dv_aload_n dX7_append_33 rfl 1 rfl ?_
              refine dv_dup dX7_append_34 rfl ?_
              refine dv_get (ci := 7) (v := .int 10) (C := RX7) (T := TX7) (N := 2) ⟨by decide, rfl⟩ hs40 rfl inG7 0 (by decide) mm_79 rfl dX7_append_35 ?_
              refine dv_iconst (v := 1) dX7_append_38 (by decide) ?_
              refine dv_iadd dX7_append_39 ?_
              refine dv_topi (fun x42 ex42 => ?_)
              obtain rfl : x42 = 11 := ex42.trans (by decide)
              refine dv_put (ci := 7) (v := .int 11) (ty := .int) (C := RX7) (T := TX7) (N := 2) ⟨by decide, rfl⟩ hs40 rfl inG7 tyX7 tyX7_ok nmX7 0 (by decide) mm_79 rfl (by decide +kernel) (fun _ => rfl) (fun _ => rfl) (Nat.le_of_ble_eq_true rfl) dX7_append_40 (en := .inr (7, [.int 11, .ref 4])) rfl (fun ct43 ec44 => ?_)
              have hI : Inv8 g idn pe ct43 := by rw [ec44]; exact up8 hI (i8_3 ⟨(11 : Int32), (by first | omega | decide), (by first | omega | decide), rfl⟩)
              have hs45 : ct43 4 = .inl (g.2 0, 200, .inl (upd (upd (upd f7 (Int32.toNatClampNeg 8) x11) (Int32.toNatClampNeg 9) x24) (Int32.toNatClampNeg 10) x37)) := by rw [ec44, va_up_ne _ _ (by omega)]; exact hs41
              have hs46 : ct43 3 = .inr (7, [.int 11, .ref 4]) := by rw [ec44]; exact va_up_self _ _ _
              refine dv_iinc (v := 0) (lv' := [(2, .int 0), (0, .ref 3), (1, .int n)]) dX7_append_43 (k := 0) rfl (by decide) (by decide) rfl ?_
              refine dv_goto (tgt := 3) dX7_append_46 (by decide) ?_
              refine dv_iload_n dX7_append_3 rfl 0 rfl ?_
              refine dv_if_lt (tgt := 49) dX7_append_4 (by decide) (fun c47 => ?_) (fun c47 => ?_)
              · skip
                exact absurd c47 (by decide)
              · skip
                refine dv_aload_n dX7_append_7 rfl 1 rfl ?_
                refine dv_get (ci := 7) (v := .int 11) (C := RX7) (T := TX7) (N := 2) ⟨by decide, rfl⟩ hs46 rfl inG7 0 (by decide) mm_79 rfl dX7_append_8 ?_
                refine dv_sipush (v := 200) dX7_append_11 (by decide) ?_
                refine dv_icmp_ge (tgt := 49) dX7_append_14 (by decide) (fun c48 => ?_) (fun c48 => ?_)
                · skip
                  exact absurd c48 (by decide)
                · skip
                  refine dv_aload_n dX7_append_17 rfl 1 rfl ?_
                  refine dv_get (ci := 7) (v := .ref 4) (C := RX7) (T := TX7) (N := 2) ⟨by decide, rfl⟩ hs46 rfl inG7 1 (by decide) mm_81 rfl dX7_append_18 ?_
                  refine dv_aload_n dX7_append_21 rfl 1 rfl ?_
                  refine dv_get (ci := 7) (v := .int 11) (C := RX7) (T := TX7) (N := 2) ⟨by decide, rfl⟩ hs46 rfl inG7 0 (by decide) mm_79 rfl dX7_append_22 ?_
                  refine dv_iload_n dX7_append_25 rfl 2 rfl ?_
                  refine dv_iload_n dX7_append_26 rfl 0 rfl ?_
                  refine dv_iushr dX7_append_27 rfl ?_
                  refine dv_topi (fun x49 ex49 => ?_)
                  refine dv_sipush (v := 255) dX7_append_28 (by decide) ?_
                  refine dv_iand dX7_append_31 ?_
                  refine dv_topi (fun x50 ex50 => ?_)
                  have tx50 := z_andr (x := x49) (y := 255) (by decide : (255 : Int32).toInt = 255) (by omega)
                  rw [← ex50] at tx50
                  refine dv_iast 0 ⟨by decide, rfl⟩ hs45 rfl (z_in (by decide : (11 : Int32).toInt = 11) (by omega) (by omega)) dX7_append_32 (en := .inl (g.2 0, 200, .inl (upd (upd (upd (upd f7 (Int32.toNatClampNeg 8) x11) (Int32.toNatClampNeg 9) x24) (Int32.toNatClampNeg 10) x37) (Int32.toNatClampNeg 11) x50))) rfl (fun ct51 ec52 => ?_)
                  have hI : Inv8 g idn pe ct51 := by rw [ec52]; exact up8 hI (i8_4 ⟨_, rfl⟩)
                  have hs53 : ct51 3 = .inr (7, [.int 11, .ref 4]) := by rw [ec52, va_up_ne _ _ (by omega)]; exact hs46
                  have hs54 : ct51 4 = .inl (g.2 0, 200, .inl (upd (upd (upd (upd f7 (Int32.toNatClampNeg 8) x11) (Int32.toNatClampNeg 9) x24) (Int32.toNatClampNeg 10) x37) (Int32.toNatClampNeg 11) x50)) := by rw [ec52]; exact va_up_self _ _ _
                  refine dv_aload_n dX7_append_33 rfl 1 rfl ?_
                  refine dv_dup dX7_append_34 rfl ?_
                  refine dv_get (ci := 7) (v := .int 11) (C := RX7) (T := TX7) (N := 2) ⟨by decide, rfl⟩ hs53 rfl inG7 0 (by decide) mm_79 rfl dX7_append_35 ?_
                  refine dv_iconst (v := 1) dX7_append_38 (by decide) ?_
                  refine dv_iadd dX7_append_39 ?_
                  refine dv_topi (fun x55 ex55 => ?_)
                  obtain rfl : x55 = 12 := ex55.trans (by decide)
                  refine dv_put (ci := 7) (v := .int 12) (ty := .int) (C := RX7) (T := TX7) (N := 2) ⟨by decide, rfl⟩ hs53 rfl inG7 tyX7 tyX7_ok nmX7 0 (by decide) mm_79 rfl (by decide +kernel) (fun _ => rfl) (fun _ => rfl) (Nat.le_of_ble_eq_true rfl) dX7_append_40 (en := .inr (7, [.int 12, .ref 4])) rfl (fun ct56 ec57 => ?_)
                  have hI : Inv8 g idn pe ct56 := by rw [ec57]; exact up8 hI (i8_3 ⟨(12 : Int32), (by first | omega | decide), (by first | omega | decide), rfl⟩)
                  have hs58 : ct56 4 = .inl (g.2 0, 200, .inl (upd (upd (upd (upd f7 (Int32.toNatClampNeg 8) x11) (Int32.toNatClampNeg 9) x24) (Int32.toNatClampNeg 10) x37) (Int32.toNatClampNeg 11) x50)) := by rw [ec57, va_up_ne _ _ (by omega)]; exact hs54
                  have hs59 : ct56 3 = .inr (7, [.int 12, .ref 4]) := by rw [ec57]; exact va_up_self _ _ _
                  refine dv_iinc (v := (-8)) (lv' := [(2, .int (-8)), (0, .ref 3), (1, .int n)]) dX7_append_43 (k := 0) rfl (by decide) (by decide) rfl ?_
                  refine dv_goto (tgt := 3) dX7_append_46 (by decide) ?_
                  refine dv_iload_n dX7_append_3 rfl 0 rfl ?_
                  refine dv_if_lt (tgt := 49) dX7_append_4 (by decide) (fun c60 => ?_) (fun c60 => ?_)
                  · skip
                    exact dv_vret dX7_append_49 rfl (by first | exact Nat.zero_le _ | decide) (by first | exact Nat.zero_le _ | decide) (by subst hK; exact ⟨rfl, hI, (hs59), (by subst_vars; exact hs58)⟩)
                  · skip
                    exact absurd c60 (by decide)

set_option maxHeartbeats 4000000 in
set_option maxRecDepth 100000 in
theorem x_app12 (l : Launch) (g : zG) (pe : Int32) (ct : Nat → va_E) (n : Int32) (hI : Inv8 g idn pe ct) (hs3 : ct 3 = .inr (7, [.int 12, .ref 4])) : DM l g pT false yX7_append cX7_append 3 none ({ frames := 0, cells := 0, slots := 0, locals := 0 }) (fun (ct2 : Nat → va_E) (rr : Option Value) => rr = none ∧ Inv8 g idn pe ct2 ∧ (ct2 3 = .inr (7, [.int 16, .ref 4])) ∧ (ct2 4 = .inl (g.2 0, 200, .inl (apB (zar (ct 4)) 12 13 14 15 n)))) ct [.ref 3, .int n] := by
  refine DM.K (fun K hK => ?_)
  refine GW.met (own := RX7) (loc := [(0, .ref 3), (1, .int n)]) (by decide) rfl rfl (Nat.le_of_ble_eq_true rfl) ?_
  have hpe0 := hI.1
  obtain ⟨len2, h3, h4, hs1⟩ := a8_3 hI
  have hs5 := hs3
  cases (hs3.symm.trans hs1)
  have rg_n := z_rng n
  obtain ⟨f7, hs6⟩ := a8_4 hI
  have hz4 : zar (ct 4) = f7 := by rw [hs6]; rfl
  refine dv_bipush (v := 24) dX7_append_0 (by decide) ?_
  refine dv_istore_n (lv' := [(2, .int 24), (0, .ref 3), (1, .int n)]) dX7_append_2 rfl (by decide) rfl ?_
  refine dv_iload_n dX7_append_3 rfl 0 rfl ?_
  refine dv_if_lt (tgt := 49) dX7_append_4 (by decide) (fun c8 => ?_) (fun c8 => ?_)
  · skip
    exact absurd c8 (by decide)
  · skip
    refine dv_aload_n dX7_append_7 rfl 1 rfl ?_
    refine dv_get (ci := 7) (v := .int 12) (C := RX7) (T := TX7) (N := 2) ⟨by decide, rfl⟩ hs5 rfl inG7 0 (by decide) mm_79 rfl dX7_append_8 ?_
    refine dv_sipush (v := 200) dX7_append_11 (by decide) ?_
    refine dv_icmp_ge (tgt := 49) dX7_append_14 (by decide) (fun c9 => ?_) (fun c9 => ?_)
    · skip
      exact absurd c9 (by decide)
    · skip
      refine dv_aload_n dX7_append_17 rfl 1 rfl ?_
      refine dv_get (ci := 7) (v := .ref 4) (C := RX7) (T := TX7) (N := 2) ⟨by decide, rfl⟩ hs5 rfl inG7 1 (by decide) mm_81 rfl dX7_append_18 ?_
      refine dv_aload_n dX7_append_21 rfl 1 rfl ?_
      refine dv_get (ci := 7) (v := .int 12) (C := RX7) (T := TX7) (N := 2) ⟨by decide, rfl⟩ hs5 rfl inG7 0 (by decide) mm_79 rfl dX7_append_22 ?_
      refine dv_iload_n dX7_append_25 rfl 2 rfl ?_
      refine dv_iload_n dX7_append_26 rfl 0 rfl ?_
      refine dv_iushr dX7_append_27 rfl ?_
      refine dv_topi (fun x10 ex10 => ?_)
      refine dv_sipush (v := 255) dX7_append_28 (by decide) ?_
      refine dv_iand dX7_append_31 ?_
      refine dv_topi (fun x11 ex11 => ?_)
      have tx11 := z_andr (x := x10) (y := 255) (by decide : (255 : Int32).toInt = 255) (by omega)
      rw [← ex11] at tx11
      refine dv_iast 0 ⟨by decide, rfl⟩ hs6 rfl (z_in (by decide : (12 : Int32).toInt = 12) (by omega) (by omega)) dX7_append_32 (en := .inl (g.2 0, 200, .inl (upd f7 (Int32.toNatClampNeg 12) x11))) rfl (fun ct12 ec13 => ?_)
      have hI : Inv8 g idn pe ct12 := by rw [ec13]; exact up8 hI (i8_4 ⟨_, rfl⟩)
      have hs14 : ct12 3 = .inr (7, [.int 12, .ref 4]) := by rw [ec13, va_up_ne _ _ (by omega)]; exact hs5
      have hs15 : ct12 4 = .inl (g.2 0, 200, .inl (upd f7 (Int32.toNatClampNeg 12) x11)) := by rw [ec13]; exact va_up_self _ _ _
      refine dv_aload_n dX7_append_33 rfl 1 rfl ?_
      refine dv_dup dX7_append_34 rfl ?_
      refine dv_get (ci := 7) (v := .int 12) (C := RX7) (T := TX7) (N := 2) ⟨by decide, rfl⟩ hs14 rfl inG7 0 (by decide) mm_79 rfl dX7_append_35 ?_
      refine dv_iconst (v := 1) dX7_append_38 (by decide) ?_
      refine dv_iadd dX7_append_39 ?_
      refine dv_topi (fun x16 ex16 => ?_)
      obtain rfl : x16 = 13 := ex16.trans (by decide)
      refine dv_put (ci := 7) (v := .int 13) (ty := .int) (C := RX7) (T := TX7) (N := 2) ⟨by decide, rfl⟩ hs14 rfl inG7 tyX7 tyX7_ok nmX7 0 (by decide) mm_79 rfl (by decide +kernel) (fun _ => rfl) (fun _ => rfl) (Nat.le_of_ble_eq_true rfl) dX7_append_40 (en := .inr (7, [.int 13, .ref 4])) rfl (fun ct17 ec18 => ?_)
      have hI : Inv8 g idn pe ct17 := by rw [ec18]; exact up8 hI (i8_3 ⟨(13 : Int32), (by first | omega | decide), (by first | omega | decide), rfl⟩)
      have hs19 : ct17 4 = .inl (g.2 0, 200, .inl (upd f7 (Int32.toNatClampNeg 12) x11)) := by rw [ec18, va_up_ne _ _ (by omega)]; exact hs15
      have hs20 : ct17 3 = .inr (7, [.int 13, .ref 4]) := by rw [ec18]; exact va_up_self _ _ _
      refine dv_iinc (v := 16) (lv' := [(2, .int 16), (0, .ref 3), (1, .int n)]) dX7_append_43 (k := 0) rfl (by decide) (by decide) rfl ?_
      refine dv_goto (tgt := 3) dX7_append_46 (by decide) ?_
      refine dv_iload_n dX7_append_3 rfl 0 rfl ?_
      refine dv_if_lt (tgt := 49) dX7_append_4 (by decide) (fun c21 => ?_) (fun c21 => ?_)
      · skip
        exact absurd c21 (by decide)
      · skip
        refine dv_aload_n dX7_append_7 rfl 1 rfl ?_
        refine dv_get (ci := 7) (v := .int 13) (C := RX7) (T := TX7) (N := 2) ⟨by decide, rfl⟩ hs20 rfl inG7 0 (by decide) mm_79 rfl dX7_append_8 ?_
        refine dv_sipush (v := 200) dX7_append_11 (by decide) ?_
        refine dv_icmp_ge (tgt := 49) dX7_append_14 (by decide) (fun c22 => ?_) (fun c22 => ?_)
        · skip
          exact absurd c22 (by decide)
        · skip
          refine dv_aload_n dX7_append_17 rfl 1 rfl ?_
          refine dv_get (ci := 7) (v := .ref 4) (C := RX7) (T := TX7) (N := 2) ⟨by decide, rfl⟩ hs20 rfl inG7 1 (by decide) mm_81 rfl dX7_append_18 ?_
          refine dv_aload_n dX7_append_21 rfl 1 rfl ?_
          refine dv_get (ci := 7) (v := .int 13) (C := RX7) (T := TX7) (N := 2) ⟨by decide, rfl⟩ hs20 rfl inG7 0 (by decide) mm_79 rfl dX7_append_22 ?_
          refine dv_iload_n dX7_append_25 rfl 2 rfl ?_
          refine dv_iload_n dX7_append_26 rfl 0 rfl ?_
          refine dv_iushr dX7_append_27 rfl ?_
          refine dv_topi (fun x23 ex23 => ?_)
          refine dv_sipush (v := 255) dX7_append_28 (by decide) ?_
          refine dv_iand dX7_append_31 ?_
          refine dv_topi (fun x24 ex24 => ?_)
          have tx24 := z_andr (x := x23) (y := 255) (by decide : (255 : Int32).toInt = 255) (by omega)
          rw [← ex24] at tx24
          refine dv_iast 0 ⟨by decide, rfl⟩ hs19 rfl (z_in (by decide : (13 : Int32).toInt = 13) (by omega) (by omega)) dX7_append_32 (en := .inl (g.2 0, 200, .inl (upd (upd f7 (Int32.toNatClampNeg 12) x11) (Int32.toNatClampNeg 13) x24))) rfl (fun ct25 ec26 => ?_)
          have hI : Inv8 g idn pe ct25 := by rw [ec26]; exact up8 hI (i8_4 ⟨_, rfl⟩)
          have hs27 : ct25 3 = .inr (7, [.int 13, .ref 4]) := by rw [ec26, va_up_ne _ _ (by omega)]; exact hs20
          have hs28 : ct25 4 = .inl (g.2 0, 200, .inl (upd (upd f7 (Int32.toNatClampNeg 12) x11) (Int32.toNatClampNeg 13) x24)) := by rw [ec26]; exact va_up_self _ _ _
          refine dv_aload_n dX7_append_33 rfl 1 rfl ?_
          refine dv_dup dX7_append_34 rfl ?_
          refine dv_get (ci := 7) (v := .int 13) (C := RX7) (T := TX7) (N := 2) ⟨by decide, rfl⟩ hs27 rfl inG7 0 (by decide) mm_79 rfl dX7_append_35 ?_
          refine dv_iconst (v := 1) dX7_append_38 (by decide) ?_
          refine dv_iadd dX7_append_39 ?_
          refine dv_topi (fun x29 ex29 => ?_)
          obtain rfl : x29 = 14 := ex29.trans (by decide)
          refine dv_put (ci := 7) (v := .int 14) (ty := .int) (C := RX7) (T := TX7) (N := 2) ⟨by decide, rfl⟩ hs27 rfl inG7 tyX7 tyX7_ok nmX7 0 (by decide) mm_79 rfl (by decide +kernel) (fun _ => rfl) (fun _ => rfl) (Nat.le_of_ble_eq_true rfl) dX7_append_40 (en := .inr (7, [.int 14, .ref 4])) rfl (fun ct30 ec31 => ?_)
          have hI : Inv8 g idn pe ct30 := by rw [ec31]; exact up8 hI (i8_3 ⟨(14 : Int32), (by first | omega | decide), (by first | omega | decide), rfl⟩)
          have hs32 : ct30 4 = .inl (g.2 0, 200, .inl (upd (upd f7 (Int32.toNatClampNeg 12) x11) (Int32.toNatClampNeg 13) x24)) := by rw [ec31, va_up_ne _ _ (by omega)]; exact hs28
          have hs33 : ct30 3 = .inr (7, [.int 14, .ref 4]) := by rw [ec31]; exact va_up_self _ _ _
          refine dv_iinc (v := 8) (lv' := [(2, .int 8), (0, .ref 3), (1, .int n)]) dX7_append_43 (k := 0) rfl (by decide) (by decide) rfl ?_
          refine dv_goto (tgt := 3) dX7_append_46 (by decide) ?_
          refine dv_iload_n dX7_append_3 rfl 0 rfl ?_
          refine dv_if_lt (tgt := 49) dX7_append_4 (by decide) (fun c34 => ?_) (fun c34 => ?_)
          · skip
            exact absurd c34 (by decide)
          · skip
            refine dv_aload_n dX7_append_7 rfl 1 rfl ?_
            refine dv_get (ci := 7) (v := .int 14) (C := RX7) (T := TX7) (N := 2) ⟨by decide, rfl⟩ hs33 rfl inG7 0 (by decide) mm_79 rfl dX7_append_8 ?_
            refine dv_sipush (v := 200) dX7_append_11 (by decide) ?_
            refine dv_icmp_ge (tgt := 49) dX7_append_14 (by decide) (fun c35 => ?_) (fun c35 => ?_)
            · skip
              exact absurd c35 (by decide)
            · skip
              refine dv_aload_n dX7_append_17 rfl 1 rfl ?_
              refine dv_get (ci := 7) (v := .ref 4) (C := RX7) (T := TX7) (N := 2) ⟨by decide, rfl⟩ hs33 rfl inG7 1 (by decide) mm_81 rfl dX7_append_18 ?_
              refine dv_aload_n dX7_append_21 rfl 1 rfl ?_
              refine dv_get (ci := 7) (v := .int 14) (C := RX7) (T := TX7) (N := 2) ⟨by decide, rfl⟩ hs33 rfl inG7 0 (by decide) mm_79 rfl dX7_append_22 ?_
              refine dv_iload_n dX7_append_25 rfl 2 rfl ?_
              refine dv_iload_n dX7_append_26 rfl 0 rfl ?_
              refine dv_iushr dX7_append_27 rfl ?_
              refine dv_topi (fun x36 ex36 => ?_)
              refine dv_sipush (v := 255) dX7_append_28 (by decide) ?_
              refine dv_iand dX7_append_31 ?_
              refine dv_topi (fun x37 ex37 => ?_)
              have tx37 := z_andr (x := x36) (y := 255) (by decide : (255 : Int32).toInt = 255) (by omega)
              rw [← ex37] at tx37
              refine dv_iast 0 ⟨by decide, rfl⟩ hs32 rfl (z_in (by decide : (14 : Int32).toInt = 14) (by omega) (by omega)) dX7_append_32 (en := .inl (g.2 0, 200, .inl (upd (upd (upd f7 (Int32.toNatClampNeg 12) x11) (Int32.toNatClampNeg 13) x24) (Int32.toNatClampNeg 14) x37))) rfl (fun ct38 ec39 => ?_)
              have hI : Inv8 g idn pe ct38 := by rw [ec39]; exact up8 hI (i8_4 ⟨_, rfl⟩)
              have hs40 : ct38 3 = .inr (7, [.int 14, .ref 4]) := by rw [ec39, va_up_ne _ _ (by omega)]; exact hs33
              have hs41 : ct38 4 = .inl (g.2 0, 200, .inl (upd (upd (upd f7 (Int32.toNatClampNeg 12) x11) (Int32.toNatClampNeg 13) x24) (Int32.toNatClampNeg 14) x37)) := by rw [ec39]; exact va_up_self _ _ _
              refine dv_aload_n dX7_append_33 rfl 1 rfl ?_
              refine dv_dup dX7_append_34 rfl ?_
              refine dv_get (ci := 7) (v := .int 14) (C := RX7) (T := TX7) (N := 2) ⟨by decide, rfl⟩ hs40 rfl inG7 0 (by decide) mm_79 rfl dX7_append_35 ?_
              refine dv_iconst (v := 1) dX7_append_38 (by decide) ?_
              refine dv_iadd dX7_append_39 ?_
              refine dv_topi (fun x42 ex42 => ?_)
              obtain rfl : x42 = 15 := ex42.trans (by decide)
              refine dv_put (ci := 7) (v := .int 15) (ty := .int) (C := RX7) (T := TX7) (N := 2) ⟨by decide, rfl⟩ hs40 rfl inG7 tyX7 tyX7_ok nmX7 0 (by decide) mm_79 rfl (by decide +kernel) (fun _ => rfl) (fun _ => rfl) (Nat.le_of_ble_eq_true rfl) dX7_append_40 (en := .inr (7, [.int 15, .ref 4])) rfl (fun ct43 ec44 => ?_)
              have hI : Inv8 g idn pe ct43 := by rw [ec44]; exact up8 hI (i8_3 ⟨(15 : Int32), (by first | omega | decide), (by first | omega | decide), rfl⟩)
              have hs45 : ct43 4 = .inl (g.2 0, 200, .inl (upd (upd (upd f7 (Int32.toNatClampNeg 12) x11) (Int32.toNatClampNeg 13) x24) (Int32.toNatClampNeg 14) x37)) := by rw [ec44, va_up_ne _ _ (by omega)]; exact hs41
              have hs46 : ct43 3 = .inr (7, [.int 15, .ref 4]) := by rw [ec44]; exact va_up_self _ _ _
              refine dv_iinc (v := 0) (lv' := [(2, .int 0), (0, .ref 3), (1, .int n)]) dX7_append_43 (k := 0) rfl (by decide) (by decide) rfl ?_
              refine dv_goto (tgt := 3) dX7_append_46 (by decide) ?_
              refine dv_iload_n dX7_append_3 rfl 0 rfl ?_
              refine dv_if_lt (tgt := 49) dX7_append_4 (by decide) (fun c47 => ?_) (fun c47 => ?_)
              · skip
                exact absurd c47 (by decide)
              · skip
                refine dv_aload_n dX7_append_7 rfl 1 rfl ?_
                refine dv_get (ci := 7) (v := .int 15) (C := RX7) (T := TX7) (N := 2) ⟨by decide, rfl⟩ hs46 rfl inG7 0 (by decide) mm_79 rfl dX7_append_8 ?_
                refine dv_sipush (v := 200) dX7_append_11 (by decide) ?_
                refine dv_icmp_ge (tgt := 49) dX7_append_14 (by decide) (fun c48 => ?_) (fun c48 => ?_)
                · skip
                  exact absurd c48 (by decide)
                · skip
                  refine dv_aload_n dX7_append_17 rfl 1 rfl ?_
                  refine dv_get (ci := 7) (v := .ref 4) (C := RX7) (T := TX7) (N := 2) ⟨by decide, rfl⟩ hs46 rfl inG7 1 (by decide) mm_81 rfl dX7_append_18 ?_
                  refine dv_aload_n dX7_append_21 rfl 1 rfl ?_
                  refine dv_get (ci := 7) (v := .int 15) (C := RX7) (T := TX7) (N := 2) ⟨by decide, rfl⟩ hs46 rfl inG7 0 (by decide) mm_79 rfl dX7_append_22 ?_
                  refine dv_iload_n dX7_append_25 rfl 2 rfl ?_
                  refine dv_iload_n dX7_append_26 rfl 0 rfl ?_
                  refine dv_iushr dX7_append_27 rfl ?_
                  refine dv_topi (fun x49 ex49 => ?_)
                  refine dv_sipush (v := 255) dX7_append_28 (by decide) ?_
                  refine dv_iand dX7_append_31 ?_
                  refine dv_topi (fun x50 ex50 => ?_)
                  have tx50 := z_andr (x := x49) (y := 255) (by decide : (255 : Int32).toInt = 255) (by omega)
                  rw [← ex50] at tx50
                  refine dv_iast 0 ⟨by decide, rfl⟩ hs45 rfl (z_in (by decide : (15 : Int32).toInt = 15) (by omega) (by omega)) dX7_append_32 (en := .inl (g.2 0, 200, .inl (upd (upd (upd (upd f7 (Int32.toNatClampNeg 12) x11) (Int32.toNatClampNeg 13) x24) (Int32.toNatClampNeg 14) x37) (Int32.toNatClampNeg 15) x50))) rfl (fun ct51 ec52 => ?_)
                  have hI : Inv8 g idn pe ct51 := by rw [ec52]; exact up8 hI (i8_4 ⟨_, rfl⟩)
                  have hs53 : ct51 3 = .inr (7, [.int 15, .ref 4]) := by rw [ec52, va_up_ne _ _ (by omega)]; exact hs46
                  have hs54 : ct51 4 = .inl (g.2 0, 200, .inl (upd (upd (upd (upd f7 (Int32.toNatClampNeg 12) x11) (Int32.toNatClampNeg 13) x24) (Int32.toNatClampNeg 14) x37) (Int32.toNatClampNeg 15) x50)) := by rw [ec52]; exact va_up_self _ _ _
                  refine dv_aload_n dX7_append_33 rfl 1 rfl ?_
                  refine dv_dup dX7_append_34 rfl ?_
                  refine dv_get (ci := 7) (v := .int 15) (C := RX7) (T := TX7) (N := 2) ⟨by decide, rfl⟩ hs53 rfl inG7 0 (by decide) mm_79 rfl dX7_append_35 ?_
                  refine dv_iconst (v := 1) dX7_append_38 (by decide) ?_
                  refine dv_iadd dX7_append_39 ?_
                  refine dv_topi (fun x55 ex55 => ?_)
                  obtain rfl : x55 = 16 := ex55.trans (by decide)
                  refine dv_put (ci := 7) (v := .int 16) (ty := .int) (C := RX7) (T := TX7) (N := 2) ⟨by decide, rfl⟩ hs53 rfl inG7 tyX7 tyX7_ok nmX7 0 (by decide) mm_79 rfl (by decide +kernel) (fun _ => rfl) (fun _ => rfl) (Nat.le_of_ble_eq_true rfl) dX7_append_40 (en := .inr (7, [.int 16, .ref 4])) rfl (fun ct56 ec57 => ?_)
                  have hI : Inv8 g idn pe ct56 := by rw [ec57]; exact up8 hI (i8_3 ⟨(16 : Int32), (by first | omega | decide), (by first | omega | decide), rfl⟩)
                  have hs58 : ct56 4 = .inl (g.2 0, 200, .inl (upd (upd (upd (upd f7 (Int32.toNatClampNeg 12) x11) (Int32.toNatClampNeg 13) x24) (Int32.toNatClampNeg 14) x37) (Int32.toNatClampNeg 15) x50)) := by rw [ec57, va_up_ne _ _ (by omega)]; exact hs54
                  have hs59 : ct56 3 = .inr (7, [.int 16, .ref 4]) := by rw [ec57]; exact va_up_self _ _ _
                  refine dv_iinc (v := (-8)) (lv' := [(2, .int (-8)), (0, .ref 3), (1, .int n)]) dX7_append_43 (k := 0) rfl (by decide) (by decide) rfl ?_
                  refine dv_goto (tgt := 3) dX7_append_46 (by decide) ?_
                  refine dv_iload_n dX7_append_3 rfl 0 rfl ?_
                  refine dv_if_lt (tgt := 49) dX7_append_4 (by decide) (fun c60 => ?_) (fun c60 => ?_)
                  · skip
                    exact dv_vret dX7_append_49 rfl (by first | exact Nat.zero_le _ | decide) (by first | exact Nat.zero_le _ | decide) (by subst hK; exact ⟨rfl, hI, (hs59), (by subst_vars; exact hs58)⟩)
                  · skip
                    exact absurd c60 (by decide)

set_option maxHeartbeats 4000000 in
set_option maxRecDepth 100000 in
theorem x_app16 (l : Launch) (g : zG) (pe : Int32) (ct : Nat → va_E) (n : Int32) (hI : Inv8 g idn pe ct) (hs3 : ct 3 = .inr (7, [.int 16, .ref 4])) : DM l g pT false yX7_append cX7_append 3 none ({ frames := 0, cells := 0, slots := 0, locals := 0 }) (fun (ct2 : Nat → va_E) (rr : Option Value) => rr = none ∧ Inv8 g idn pe ct2 ∧ (ct2 3 = .inr (7, [.int 20, .ref 4])) ∧ (ct2 4 = .inl (g.2 0, 200, .inl (apB (zar (ct 4)) 16 17 18 19 n)))) ct [.ref 3, .int n] := by
  refine DM.K (fun K hK => ?_)
  refine GW.met (own := RX7) (loc := [(0, .ref 3), (1, .int n)]) (by decide) rfl rfl (Nat.le_of_ble_eq_true rfl) ?_
  have hpe0 := hI.1
  obtain ⟨len2, h3, h4, hs1⟩ := a8_3 hI
  have hs5 := hs3
  cases (hs3.symm.trans hs1)
  have rg_n := z_rng n
  obtain ⟨f7, hs6⟩ := a8_4 hI
  have hz4 : zar (ct 4) = f7 := by rw [hs6]; rfl
  refine dv_bipush (v := 24) dX7_append_0 (by decide) ?_
  refine dv_istore_n (lv' := [(2, .int 24), (0, .ref 3), (1, .int n)]) dX7_append_2 rfl (by decide) rfl ?_
  refine dv_iload_n dX7_append_3 rfl 0 rfl ?_
  refine dv_if_lt (tgt := 49) dX7_append_4 (by decide) (fun c8 => ?_) (fun c8 => ?_)
  · skip
    exact absurd c8 (by decide)
  · skip
    refine dv_aload_n dX7_append_7 rfl 1 rfl ?_
    refine dv_get (ci := 7) (v := .int 16) (C := RX7) (T := TX7) (N := 2) ⟨by decide, rfl⟩ hs5 rfl inG7 0 (by decide) mm_79 rfl dX7_append_8 ?_
    refine dv_sipush (v := 200) dX7_append_11 (by decide) ?_
    refine dv_icmp_ge (tgt := 49) dX7_append_14 (by decide) (fun c9 => ?_) (fun c9 => ?_)
    · skip
      exact absurd c9 (by decide)
    · skip
      refine dv_aload_n dX7_append_17 rfl 1 rfl ?_
      refine dv_get (ci := 7) (v := .ref 4) (C := RX7) (T := TX7) (N := 2) ⟨by decide, rfl⟩ hs5 rfl inG7 1 (by decide) mm_81 rfl dX7_append_18 ?_
      refine dv_aload_n dX7_append_21 rfl 1 rfl ?_
      refine dv_get (ci := 7) (v := .int 16) (C := RX7) (T := TX7) (N := 2) ⟨by decide, rfl⟩ hs5 rfl inG7 0 (by decide) mm_79 rfl dX7_append_22 ?_
      refine dv_iload_n dX7_append_25 rfl 2 rfl ?_
      refine dv_iload_n dX7_append_26 rfl 0 rfl ?_
      refine dv_iushr dX7_append_27 rfl ?_
      refine dv_topi (fun x10 ex10 => ?_)
      refine dv_sipush (v := 255) dX7_append_28 (by decide) ?_
      refine dv_iand dX7_append_31 ?_
      refine dv_topi (fun x11 ex11 => ?_)
      have tx11 := z_andr (x := x10) (y := 255) (by decide : (255 : Int32).toInt = 255) (by omega)
      rw [← ex11] at tx11
      refine dv_iast 0 ⟨by decide, rfl⟩ hs6 rfl (z_in (by decide : (16 : Int32).toInt = 16) (by omega) (by omega)) dX7_append_32 (en := .inl (g.2 0, 200, .inl (upd f7 (Int32.toNatClampNeg 16) x11))) rfl (fun ct12 ec13 => ?_)
      have hI : Inv8 g idn pe ct12 := by rw [ec13]; exact up8 hI (i8_4 ⟨_, rfl⟩)
      have hs14 : ct12 3 = .inr (7, [.int 16, .ref 4]) := by rw [ec13, va_up_ne _ _ (by omega)]; exact hs5
      have hs15 : ct12 4 = .inl (g.2 0, 200, .inl (upd f7 (Int32.toNatClampNeg 16) x11)) := by rw [ec13]; exact va_up_self _ _ _
      refine dv_aload_n dX7_append_33 rfl 1 rfl ?_
      refine dv_dup dX7_append_34 rfl ?_
      refine dv_get (ci := 7) (v := .int 16) (C := RX7) (T := TX7) (N := 2) ⟨by decide, rfl⟩ hs14 rfl inG7 0 (by decide) mm_79 rfl dX7_append_35 ?_
      refine dv_iconst (v := 1) dX7_append_38 (by decide) ?_
      refine dv_iadd dX7_append_39 ?_
      refine dv_topi (fun x16 ex16 => ?_)
      obtain rfl : x16 = 17 := ex16.trans (by decide)
      refine dv_put (ci := 7) (v := .int 17) (ty := .int) (C := RX7) (T := TX7) (N := 2) ⟨by decide, rfl⟩ hs14 rfl inG7 tyX7 tyX7_ok nmX7 0 (by decide) mm_79 rfl (by decide +kernel) (fun _ => rfl) (fun _ => rfl) (Nat.le_of_ble_eq_true rfl) dX7_append_40 (en := .inr (7, [.int 17, .ref 4])) rfl (fun ct17 ec18 => ?_)
      have hI : Inv8 g idn pe ct17 := by rw [ec18]; exact up8 hI (i8_3 ⟨(17 : Int32), (by first | omega | decide), (by first | omega | decide), rfl⟩)
      have hs19 : ct17 4 = .inl (g.2 0, 200, .inl (upd f7 (Int32.toNatClampNeg 16) x11)) := by rw [ec18, va_up_ne _ _ (by omega)]; exact hs15
      have hs20 : ct17 3 = .inr (7, [.int 17, .ref 4]) := by rw [ec18]; exact va_up_self _ _ _
      refine dv_iinc (v := 16) (lv' := [(2, .int 16), (0, .ref 3), (1, .int n)]) dX7_append_43 (k := 0) rfl (by decide) (by decide) rfl ?_
      refine dv_goto (tgt := 3) dX7_append_46 (by decide) ?_
      refine dv_iload_n dX7_append_3 rfl 0 rfl ?_
      refine dv_if_lt (tgt := 49) dX7_append_4 (by decide) (fun c21 => ?_) (fun c21 => ?_)
      · skip
        exact absurd c21 (by decide)
      · skip
        refine dv_aload_n dX7_append_7 rfl 1 rfl ?_
        refine dv_get (ci := 7) (v := .int 17) (C := RX7) (T := TX7) (N := 2) ⟨by decide, rfl⟩ hs20 rfl inG7 0 (by decide) mm_79 rfl dX7_append_8 ?_
        refine dv_sipush (v := 200) dX7_append_11 (by decide) ?_
        refine dv_icmp_ge (tgt := 49) dX7_append_14 (by decide) (fun c22 => ?_) (fun c22 => ?_)
        · skip
          exact absurd c22 (by decide)
        · skip
          refine dv_aload_n dX7_append_17 rfl 1 rfl ?_
          refine dv_get (ci := 7) (v := .ref 4) (C := RX7) (T := TX7) (N := 2) ⟨by decide, rfl⟩ hs20 rfl inG7 1 (by decide) mm_81 rfl dX7_append_18 ?_
          refine dv_aload_n dX7_append_21 rfl 1 rfl ?_
          refine dv_get (ci := 7) (v := .int 17) (C := RX7) (T := TX7) (N := 2) ⟨by decide, rfl⟩ hs20 rfl inG7 0 (by decide) mm_79 rfl dX7_append_22 ?_
          refine dv_iload_n dX7_append_25 rfl 2 rfl ?_
          refine dv_iload_n dX7_append_26 rfl 0 rfl ?_
          refine dv_iushr dX7_append_27 rfl ?_
          refine dv_topi (fun x23 ex23 => ?_)
          refine dv_sipush (v := 255) dX7_append_28 (by decide) ?_
          refine dv_iand dX7_append_31 ?_
          refine dv_topi (fun x24 ex24 => ?_)
          have tx24 := z_andr (x := x23) (y := 255) (by decide : (255 : Int32).toInt = 255) (by omega)
          rw [← ex24] at tx24
          refine dv_iast 0 ⟨by decide, rfl⟩ hs19 rfl (z_in (by decide : (17 : Int32).toInt = 17) (by omega) (by omega)) dX7_append_32 (en := .inl (g.2 0, 200, .inl (upd (upd f7 (Int32.toNatClampNeg 16) x11) (Int32.toNatClampNeg 17) x24))) rfl (fun ct25 ec26 => ?_)
          have hI : Inv8 g idn pe ct25 := by rw [ec26]; exact up8 hI (i8_4 ⟨_, rfl⟩)
          have hs27 : ct25 3 = .inr (7, [.int 17, .ref 4]) := by rw [ec26, va_up_ne _ _ (by omega)]; exact hs20
          have hs28 : ct25 4 = .inl (g.2 0, 200, .inl (upd (upd f7 (Int32.toNatClampNeg 16) x11) (Int32.toNatClampNeg 17) x24)) := by rw [ec26]; exact va_up_self _ _ _
          refine dv_aload_n dX7_append_33 rfl 1 rfl ?_
          refine dv_dup dX7_append_34 rfl ?_
          refine dv_get (ci := 7) (v := .int 17) (C := RX7) (T := TX7) (N := 2) ⟨by decide, rfl⟩ hs27 rfl inG7 0 (by decide) mm_79 rfl dX7_append_35 ?_
          refine dv_iconst (v := 1) dX7_append_38 (by decide) ?_
          refine dv_iadd dX7_append_39 ?_
          refine dv_topi (fun x29 ex29 => ?_)
          obtain rfl : x29 = 18 := ex29.trans (by decide)
          refine dv_put (ci := 7) (v := .int 18) (ty := .int) (C := RX7) (T := TX7) (N := 2) ⟨by decide, rfl⟩ hs27 rfl inG7 tyX7 tyX7_ok nmX7 0 (by decide) mm_79 rfl (by decide +kernel) (fun _ => rfl) (fun _ => rfl) (Nat.le_of_ble_eq_true rfl) dX7_append_40 (en := .inr (7, [.int 18, .ref 4])) rfl (fun ct30 ec31 => ?_)
          have hI : Inv8 g idn pe ct30 := by rw [ec31]; exact up8 hI (i8_3 ⟨(18 : Int32), (by first | omega | decide), (by first | omega | decide), rfl⟩)
          have hs32 : ct30 4 = .inl (g.2 0, 200, .inl (upd (upd f7 (Int32.toNatClampNeg 16) x11) (Int32.toNatClampNeg 17) x24)) := by rw [ec31, va_up_ne _ _ (by omega)]; exact hs28
          have hs33 : ct30 3 = .inr (7, [.int 18, .ref 4]) := by rw [ec31]; exact va_up_self _ _ _
          refine dv_iinc (v := 8) (lv' := [(2, .int 8), (0, .ref 3), (1, .int n)]) dX7_append_43 (k := 0) rfl (by decide) (by decide) rfl ?_
          refine dv_goto (tgt := 3) dX7_append_46 (by decide) ?_
          refine dv_iload_n dX7_append_3 rfl 0 rfl ?_
          refine dv_if_lt (tgt := 49) dX7_append_4 (by decide) (fun c34 => ?_) (fun c34 => ?_)
          · skip
            exact absurd c34 (by decide)
          · skip
            refine dv_aload_n dX7_append_7 rfl 1 rfl ?_
            refine dv_get (ci := 7) (v := .int 18) (C := RX7) (T := TX7) (N := 2) ⟨by decide, rfl⟩ hs33 rfl inG7 0 (by decide) mm_79 rfl dX7_append_8 ?_
            refine dv_sipush (v := 200) dX7_append_11 (by decide) ?_
            refine dv_icmp_ge (tgt := 49) dX7_append_14 (by decide) (fun c35 => ?_) (fun c35 => ?_)
            · skip
              exact absurd c35 (by decide)
            · skip
              refine dv_aload_n dX7_append_17 rfl 1 rfl ?_
              refine dv_get (ci := 7) (v := .ref 4) (C := RX7) (T := TX7) (N := 2) ⟨by decide, rfl⟩ hs33 rfl inG7 1 (by decide) mm_81 rfl dX7_append_18 ?_
              refine dv_aload_n dX7_append_21 rfl 1 rfl ?_
              refine dv_get (ci := 7) (v := .int 18) (C := RX7) (T := TX7) (N := 2) ⟨by decide, rfl⟩ hs33 rfl inG7 0 (by decide) mm_79 rfl dX7_append_22 ?_
              refine dv_iload_n dX7_append_25 rfl 2 rfl ?_
              refine dv_iload_n dX7_append_26 rfl 0 rfl ?_
              refine dv_iushr dX7_append_27 rfl ?_
              refine dv_topi (fun x36 ex36 => ?_)
              refine dv_sipush (v := 255) dX7_append_28 (by decide) ?_
              refine dv_iand dX7_append_31 ?_
              refine dv_topi (fun x37 ex37 => ?_)
              have tx37 := z_andr (x := x36) (y := 255) (by decide : (255 : Int32).toInt = 255) (by omega)
              rw [← ex37] at tx37
              refine dv_iast 0 ⟨by decide, rfl⟩ hs32 rfl (z_in (by decide : (18 : Int32).toInt = 18) (by omega) (by omega)) dX7_append_32 (en := .inl (g.2 0, 200, .inl (upd (upd (upd f7 (Int32.toNatClampNeg 16) x11) (Int32.toNatClampNeg 17) x24) (Int32.toNatClampNeg 18) x37))) rfl (fun ct38 ec39 => ?_)
              have hI : Inv8 g idn pe ct38 := by rw [ec39]; exact up8 hI (i8_4 ⟨_, rfl⟩)
              have hs40 : ct38 3 = .inr (7, [.int 18, .ref 4]) := by rw [ec39, va_up_ne _ _ (by omega)]; exact hs33
              have hs41 : ct38 4 = .inl (g.2 0, 200, .inl (upd (upd (upd f7 (Int32.toNatClampNeg 16) x11) (Int32.toNatClampNeg 17) x24) (Int32.toNatClampNeg 18) x37)) := by rw [ec39]; exact va_up_self _ _ _
              refine dv_aload_n dX7_append_33 rfl 1 rfl ?_
              refine dv_dup dX7_append_34 rfl ?_
              refine dv_get (ci := 7) (v := .int 18) (C := RX7) (T := TX7) (N := 2) ⟨by decide, rfl⟩ hs40 rfl inG7 0 (by decide) mm_79 rfl dX7_append_35 ?_
              refine dv_iconst (v := 1) dX7_append_38 (by decide) ?_
              refine dv_iadd dX7_append_39 ?_
              refine dv_topi (fun x42 ex42 => ?_)
              obtain rfl : x42 = 19 := ex42.trans (by decide)
              refine dv_put (ci := 7) (v := .int 19) (ty := .int) (C := RX7) (T := TX7) (N := 2) ⟨by decide, rfl⟩ hs40 rfl inG7 tyX7 tyX7_ok nmX7 0 (by decide) mm_79 rfl (by decide +kernel) (fun _ => rfl) (fun _ => rfl) (Nat.le_of_ble_eq_true rfl) dX7_append_40 (en := .inr (7, [.int 19, .ref 4])) rfl (fun ct43 ec44 => ?_)
              have hI : Inv8 g idn pe ct43 := by rw [ec44]; exact up8 hI (i8_3 ⟨(19 : Int32), (by first | omega | decide), (by first | omega | decide), rfl⟩)
              have hs45 : ct43 4 = .inl (g.2 0, 200, .inl (upd (upd (upd f7 (Int32.toNatClampNeg 16) x11) (Int32.toNatClampNeg 17) x24) (Int32.toNatClampNeg 18) x37)) := by rw [ec44, va_up_ne _ _ (by omega)]; exact hs41
              have hs46 : ct43 3 = .inr (7, [.int 19, .ref 4]) := by rw [ec44]; exact va_up_self _ _ _
              refine dv_iinc (v := 0) (lv' := [(2, .int 0), (0, .ref 3), (1, .int n)]) dX7_append_43 (k := 0) rfl (by decide) (by decide) rfl ?_
              refine dv_goto (tgt := 3) dX7_append_46 (by decide) ?_
              refine dv_iload_n dX7_append_3 rfl 0 rfl ?_
              refine dv_if_lt (tgt := 49) dX7_append_4 (by decide) (fun c47 => ?_) (fun c47 => ?_)
              · skip
                exact absurd c47 (by decide)
              · skip
                refine dv_aload_n dX7_append_7 rfl 1 rfl ?_
                refine dv_get (ci := 7) (v := .int 19) (C := RX7) (T := TX7) (N := 2) ⟨by decide, rfl⟩ hs46 rfl inG7 0 (by decide) mm_79 rfl dX7_append_8 ?_
                refine dv_sipush (v := 200) dX7_append_11 (by decide) ?_
                refine dv_icmp_ge (tgt := 49) dX7_append_14 (by decide) (fun c48 => ?_) (fun c48 => ?_)
                · skip
                  exact absurd c48 (by decide)
                · skip
                  refine dv_aload_n dX7_append_17 rfl 1 rfl ?_
                  refine dv_get (ci := 7) (v := .ref 4) (C := RX7) (T := TX7) (N := 2) ⟨by decide, rfl⟩ hs46 rfl inG7 1 (by decide) mm_81 rfl dX7_append_18 ?_
                  refine dv_aload_n dX7_append_21 rfl 1 rfl ?_
                  refine dv_get (ci := 7) (v := .int 19) (C := RX7) (T := TX7) (N := 2) ⟨by decide, rfl⟩ hs46 rfl inG7 0 (by decide) mm_79 rfl dX7_append_22 ?_
                  refine dv_iload_n dX7_append_25 rfl 2 rfl ?_
                  refine dv_iload_n dX7_append_26 rfl 0 rfl ?_
                  refine dv_iushr dX7_append_27 rfl ?_
                  refine dv_topi (fun x49 ex49 => ?_)
                  refine dv_sipush (v := 255) dX7_append_28 (by decide) ?_
                  refine dv_iand dX7_append_31 ?_
                  refine dv_topi (fun x50 ex50 => ?_)
                  have tx50 := z_andr (x := x49) (y := 255) (by decide : (255 : Int32).toInt = 255) (by omega)
                  rw [← ex50] at tx50
                  refine dv_iast 0 ⟨by decide, rfl⟩ hs45 rfl (z_in (by decide : (19 : Int32).toInt = 19) (by omega) (by omega)) dX7_append_32 (en := .inl (g.2 0, 200, .inl (upd (upd (upd (upd f7 (Int32.toNatClampNeg 16) x11) (Int32.toNatClampNeg 17) x24) (Int32.toNatClampNeg 18) x37) (Int32.toNatClampNeg 19) x50))) rfl (fun ct51 ec52 => ?_)
                  have hI : Inv8 g idn pe ct51 := by rw [ec52]; exact up8 hI (i8_4 ⟨_, rfl⟩)
                  have hs53 : ct51 3 = .inr (7, [.int 19, .ref 4]) := by rw [ec52, va_up_ne _ _ (by omega)]; exact hs46
                  have hs54 : ct51 4 = .inl (g.2 0, 200, .inl (upd (upd (upd (upd f7 (Int32.toNatClampNeg 16) x11) (Int32.toNatClampNeg 17) x24) (Int32.toNatClampNeg 18) x37) (Int32.toNatClampNeg 19) x50)) := by rw [ec52]; exact va_up_self _ _ _
                  refine dv_aload_n dX7_append_33 rfl 1 rfl ?_
                  refine dv_dup dX7_append_34 rfl ?_
                  refine dv_get (ci := 7) (v := .int 19) (C := RX7) (T := TX7) (N := 2) ⟨by decide, rfl⟩ hs53 rfl inG7 0 (by decide) mm_79 rfl dX7_append_35 ?_
                  refine dv_iconst (v := 1) dX7_append_38 (by decide) ?_
                  refine dv_iadd dX7_append_39 ?_
                  refine dv_topi (fun x55 ex55 => ?_)
                  obtain rfl : x55 = 20 := ex55.trans (by decide)
                  refine dv_put (ci := 7) (v := .int 20) (ty := .int) (C := RX7) (T := TX7) (N := 2) ⟨by decide, rfl⟩ hs53 rfl inG7 tyX7 tyX7_ok nmX7 0 (by decide) mm_79 rfl (by decide +kernel) (fun _ => rfl) (fun _ => rfl) (Nat.le_of_ble_eq_true rfl) dX7_append_40 (en := .inr (7, [.int 20, .ref 4])) rfl (fun ct56 ec57 => ?_)
                  have hI : Inv8 g idn pe ct56 := by rw [ec57]; exact up8 hI (i8_3 ⟨(20 : Int32), (by first | omega | decide), (by first | omega | decide), rfl⟩)
                  have hs58 : ct56 4 = .inl (g.2 0, 200, .inl (upd (upd (upd (upd f7 (Int32.toNatClampNeg 16) x11) (Int32.toNatClampNeg 17) x24) (Int32.toNatClampNeg 18) x37) (Int32.toNatClampNeg 19) x50)) := by rw [ec57, va_up_ne _ _ (by omega)]; exact hs54
                  have hs59 : ct56 3 = .inr (7, [.int 20, .ref 4]) := by rw [ec57]; exact va_up_self _ _ _
                  refine dv_iinc (v := (-8)) (lv' := [(2, .int (-8)), (0, .ref 3), (1, .int n)]) dX7_append_43 (k := 0) rfl (by decide) (by decide) rfl ?_
                  refine dv_goto (tgt := 3) dX7_append_46 (by decide) ?_
                  refine dv_iload_n dX7_append_3 rfl 0 rfl ?_
                  refine dv_if_lt (tgt := 49) dX7_append_4 (by decide) (fun c60 => ?_) (fun c60 => ?_)
                  · skip
                    exact dv_vret dX7_append_49 rfl (by first | exact Nat.zero_le _ | decide) (by first | exact Nat.zero_le _ | decide) (by subst hK; exact ⟨rfl, hI, (hs59), (by subst_vars; exact hs58)⟩)
                  · skip
                    exact absurd c60 (by decide)

set_option maxHeartbeats 4000000 in
set_option maxRecDepth 100000 in
theorem x_feed (l : Launch) (g : zG) (pe : Int32) (ct : Nat → va_E) (a0 : Int32) (b0 : Int32) (c0 : Int32) (d0 : Int32) (e0 : Int32) (hI : Inv8 g idn pe ct) (hs3 : ct 3 = .inr (7, [.int 0, .ref 4])) : DM l g pCl false yX8_feed cX8_feed 6 (some .int) ({ frames := 1, cells := 0, slots := 0, locals := 22 }) (fun (ct2 : Nat → va_E) (rr : Option Value) => ∃ (r : Int32), rr = some (.int r) ∧ ((r = 20)) ∧ Inv8 g idn pe ct2 ∧ (ct2 3 = .inr (7, [.int 20, .ref 4])) ∧ (ct2 4 = .inl (g.2 0, 200, .inl (apB (apB (apB (apB (apB (zar (ct 4)) 0 1 2 3 a0) 4 5 6 7 b0) 8 9 10 11 c0) 12 13 14 15 d0) 16 17 18 19 e0))) ∧ (ct2 0 = ct 0)) ct [.ref 0, .int a0, .int b0, .int c0, .int d0, .int e0] := by
  refine DM.K (fun K hK => ?_)
  refine GW.met (own := RX8) (loc := [(0, .ref 0), (1, .int a0), (2, .int b0), (3, .int c0), (4, .int d0), (5, .int e0)]) (by decide) rfl rfl (Nat.le_of_ble_eq_true rfl) ?_
  have hpe0 := hI.1
  obtain ⟨len2, h3, h4, hs1⟩ := a8_3 hI
  have hs5 := hs3
  cases (hs3.symm.trans hs1)
  have hc0 : ct 0 = ct 0 := rfl
  have rg_a0 := z_rng a0
  have rg_b0 := z_rng b0
  have rg_c0 := z_rng c0
  have rg_d0 := z_rng d0
  have rg_e0 := z_rng e0
  refine dv_aload_n dX8_feed_0 rfl 0 rfl ?_
  obtain ⟨bk8, dr7, h9, h10, h11, hs6⟩ := a8_0 hI
  refine dv_get (ci := 8) (v := .ref 3) (C := RX8) (T := TX8) (N := 13) ⟨by decide, rfl⟩ hs6 rfl inG8 2 (by decide) mm_305 rfl dX8_feed_1 ?_
  refine dv_get (ci := 7) (v := .int 0) (C := RX7) (T := TX7) (N := 2) ⟨by decide, rfl⟩ hs5 rfl inG7 0 (by decide) mm_80 rfl dX8_feed_4 ?_
  refine dv_bipush (v := 20) dX8_feed_7 (by decide) ?_
  refine dv_iadd dX8_feed_9 ?_
  refine dv_topi (fun x12 ex12 => ?_)
  obtain rfl : x12 = 20 := ex12.trans (by decide)
  refine dv_sipush (v := 200) dX8_feed_10 (by decide) ?_
  refine dv_icmp_le (tgt := 18) dX8_feed_13 (by decide) (fun c13 => ?_) (fun c13 => ?_)
  · skip
    refine dv_aload_n dX8_feed_18 rfl 0 rfl ?_
    refine dv_get (ci := 8) (v := .ref 3) (C := RX8) (T := TX8) (N := 13) ⟨by decide, rfl⟩ hs6 rfl inG8 2 (by decide) mm_305 rfl dX8_feed_19 ?_
    refine dv_iload_n dX8_feed_22 rfl 1 rfl ?_
    refine GW.callV (n := 1) (As := [.int a0]) (rest := []) (b := 3) (x_app0 l g pe ct a0 hI hs5) sub_pT_pCl rfl rfl ⟨by decide, rfl⟩ hs5 (q := (RX7, TX7, 2)) rfl mm_347 mm_348 mm_349 mm_53 mm_350 (by decide +kernel) ⟨Nat.le_of_ble_eq_true rfl, Nat.le_of_ble_eq_true rfl⟩ rfl (Nat.le_of_ble_eq_true rfl) dX8_feed_23 (Nat.zero_le _) (Nat.zero_le _) rfl (fun ct14 rrr15 hBr15 hoff16 => ?_)
    obtain ⟨rfl, hI, hk17, hk18⟩ := hBr15
    refine GW.eq (S2 := []) rfl rfl rfl ?_
    have hs19 : ct14 0 = .inr (8, [.ref 1, .ref 2, .ref 3, .ref 5, .ref 6, .ref 9, .ref 10, .ref 17, .ref 21, .ref 34, .ref (99 + 3 * dr7), .int pe, .int bk8]) := (hoff16 _ (pT_no (by decide))).trans hs6
    have hc0 : ct14 0 = ct 0 := (hoff16 0 (pT_no (by decide))).trans hc0
    refine dv_aload_n dX8_feed_26 rfl 0 rfl ?_
    refine dv_get (ci := 8) (v := .ref 3) (C := RX8) (T := TX8) (N := 13) ⟨by decide, rfl⟩ hs19 rfl inG8 2 (by decide) mm_305 rfl dX8_feed_27 ?_
    refine dv_iload_n dX8_feed_30 rfl 2 rfl ?_
    refine GW.callV (n := 1) (As := [.int b0]) (rest := []) (b := 3) (x_app4 l g pe ct14 b0 hI hk17) sub_pT_pCl rfl rfl ⟨by decide, rfl⟩ hk17 (q := (RX7, TX7, 2)) rfl mm_347 mm_348 mm_349 mm_53 mm_350 (by decide +kernel) ⟨Nat.le_of_ble_eq_true rfl, Nat.le_of_ble_eq_true rfl⟩ rfl (Nat.le_of_ble_eq_true rfl) dX8_feed_31 (Nat.zero_le _) (Nat.zero_le _) rfl (fun ct20 rrr21 hBr21 hoff22 => ?_)
    obtain ⟨rfl, hI, hk23, hk24⟩ := hBr21
    refine GW.eq (S2 := []) rfl rfl rfl ?_
    have hs25 : ct20 0 = .inr (8, [.ref 1, .ref 2, .ref 3, .ref 5, .ref 6, .ref 9, .ref 10, .ref 17, .ref 21, .ref 34, .ref (99 + 3 * dr7), .int pe, .int bk8]) := (hoff22 _ (pT_no (by decide))).trans hs19
    have hc0 : ct20 0 = ct 0 := (hoff22 0 (pT_no (by decide))).trans hc0
    refine dv_aload_n dX8_feed_34 rfl 0 rfl ?_
    refine dv_get (ci := 8) (v := .ref 3) (C := RX8) (T := TX8) (N := 13) ⟨by decide, rfl⟩ hs25 rfl inG8 2 (by decide) mm_305 rfl dX8_feed_35 ?_
    refine dv_iload_n dX8_feed_38 rfl 3 rfl ?_
    refine GW.callV (n := 1) (As := [.int c0]) (rest := []) (b := 3) (x_app8 l g pe ct20 c0 hI hk23) sub_pT_pCl rfl rfl ⟨by decide, rfl⟩ hk23 (q := (RX7, TX7, 2)) rfl mm_347 mm_348 mm_349 mm_53 mm_350 (by decide +kernel) ⟨Nat.le_of_ble_eq_true rfl, Nat.le_of_ble_eq_true rfl⟩ rfl (Nat.le_of_ble_eq_true rfl) dX8_feed_39 (Nat.zero_le _) (Nat.zero_le _) rfl (fun ct26 rrr27 hBr27 hoff28 => ?_)
    obtain ⟨rfl, hI, hk29, hk30⟩ := hBr27
    refine GW.eq (S2 := []) rfl rfl rfl ?_
    have hs31 : ct26 0 = .inr (8, [.ref 1, .ref 2, .ref 3, .ref 5, .ref 6, .ref 9, .ref 10, .ref 17, .ref 21, .ref 34, .ref (99 + 3 * dr7), .int pe, .int bk8]) := (hoff28 _ (pT_no (by decide))).trans hs25
    have hc0 : ct26 0 = ct 0 := (hoff28 0 (pT_no (by decide))).trans hc0
    refine dv_aload_n dX8_feed_42 rfl 0 rfl ?_
    refine dv_get (ci := 8) (v := .ref 3) (C := RX8) (T := TX8) (N := 13) ⟨by decide, rfl⟩ hs31 rfl inG8 2 (by decide) mm_305 rfl dX8_feed_43 ?_
    refine dv_iload dX8_feed_46 4 rfl ?_
    refine GW.callV (n := 1) (As := [.int d0]) (rest := []) (b := 3) (x_app12 l g pe ct26 d0 hI hk29) sub_pT_pCl rfl rfl ⟨by decide, rfl⟩ hk29 (q := (RX7, TX7, 2)) rfl mm_347 mm_348 mm_349 mm_53 mm_350 (by decide +kernel) ⟨Nat.le_of_ble_eq_true rfl, Nat.le_of_ble_eq_true rfl⟩ rfl (Nat.le_of_ble_eq_true rfl) dX8_feed_48 (Nat.zero_le _) (Nat.zero_le _) rfl (fun ct32 rrr33 hBr33 hoff34 => ?_)
    obtain ⟨rfl, hI, hk35, hk36⟩ := hBr33
    refine GW.eq (S2 := []) rfl rfl rfl ?_
    have hs37 : ct32 0 = .inr (8, [.ref 1, .ref 2, .ref 3, .ref 5, .ref 6, .ref 9, .ref 10, .ref 17, .ref 21, .ref 34, .ref (99 + 3 * dr7), .int pe, .int bk8]) := (hoff34 _ (pT_no (by decide))).trans hs31
    have hc0 : ct32 0 = ct 0 := (hoff34 0 (pT_no (by decide))).trans hc0
    refine dv_aload_n dX8_feed_51 rfl 0 rfl ?_
    refine dv_get (ci := 8) (v := .ref 3) (C := RX8) (T := TX8) (N := 13) ⟨by decide, rfl⟩ hs37 rfl inG8 2 (by decide) mm_305 rfl dX8_feed_52 ?_
    refine dv_iload dX8_feed_55 5 rfl ?_
    refine GW.callV (n := 1) (As := [.int e0]) (rest := []) (b := 3) (x_app16 l g pe ct32 e0 hI hk35) sub_pT_pCl rfl rfl ⟨by decide, rfl⟩ hk35 (q := (RX7, TX7, 2)) rfl mm_347 mm_348 mm_349 mm_53 mm_350 (by decide +kernel) ⟨Nat.le_of_ble_eq_true rfl, Nat.le_of_ble_eq_true rfl⟩ rfl (Nat.le_of_ble_eq_true rfl) dX8_feed_57 (Nat.zero_le _) (Nat.zero_le _) rfl (fun ct38 rrr39 hBr39 hoff40 => ?_)
    obtain ⟨rfl, hI, hk41, hk42⟩ := hBr39
    refine GW.eq (S2 := []) rfl rfl rfl ?_
    have hs43 : ct38 0 = .inr (8, [.ref 1, .ref 2, .ref 3, .ref 5, .ref 6, .ref 9, .ref 10, .ref 17, .ref 21, .ref 34, .ref (99 + 3 * dr7), .int pe, .int bk8]) := (hoff40 _ (pT_no (by decide))).trans hs37
    have hc0 : ct38 0 = ct 0 := (hoff40 0 (pT_no (by decide))).trans hc0
    refine dv_aload_n dX8_feed_60 rfl 0 rfl ?_
    refine dv_get (ci := 8) (v := .ref 3) (C := RX8) (T := TX8) (N := 13) ⟨by decide, rfl⟩ hs43 rfl inG8 2 (by decide) mm_305 rfl dX8_feed_61 ?_
    refine dv_get (ci := 7) (v := .int 20) (C := RX7) (T := TX7) (N := 2) ⟨by decide, rfl⟩ hk41 rfl inG7 0 (by decide) mm_80 rfl dX8_feed_64 ?_
    have q44 : (20 : Int32).toInt = 20 := by decide
    exact dv_iret dX8_feed_67 rfl (by first | exact Nat.zero_le _ | decide) (by first | exact Nat.zero_le _ | decide) (by subst hK; exact ⟨20, rfl, (rfl), hI, (hk41), (by rw [hk42, hk36, hk30, hk24, hk18]; rfl), (by assumption)⟩)
  · skip
    exact absurd c13 (by decide)

set_option maxHeartbeats 4000000 in
set_option maxRecDepth 100000 in
theorem x_clear (l : Launch) (g : zG) (pe : Int32) (ct : Nat → va_E) (hI : Inv8 g idn pe ct) : DM l g pT false yX7_clear cX7_clear 1 none ({ frames := 0, cells := 0, slots := 0, locals := 0 }) (fun (ct2 : Nat → va_E) (rr : Option Value) => rr = none ∧ Inv8 g idn pe ct2 ∧ (ct2 3 = .inr (7, [.int 0, .ref 4]))) ct [.ref 3] := by
  refine DM.K (fun K hK => ?_)
  refine GW.met (own := RX7) (loc := [(0, .ref 3)]) (by decide) rfl rfl (Nat.le_of_ble_eq_true rfl) ?_
  have hpe0 := hI.1
  refine dv_aload_n dX7_clear_0 rfl 0 rfl ?_
  refine dv_iconst (v := 0) dX7_clear_1 (by decide) ?_
  obtain ⟨len2, h3, h4, hs1⟩ := a8_3 hI
  refine dv_put (ci := 7) (v := .int 0) (ty := .int) (C := RX7) (T := TX7) (N := 2) ⟨by decide, rfl⟩ hs1 rfl inG7 tyX7 tyX7_ok nmX7 0 (by decide) mm_79 rfl (by decide +kernel) (fun _ => rfl) (fun _ => rfl) (Nat.le_of_ble_eq_true rfl) dX7_clear_2 (en := .inr (7, [.int 0, .ref 4])) rfl (fun ct5 ec6 => ?_)
  have hI : Inv8 g idn pe ct5 := by rw [ec6]; exact up8 hI (i8_3 ⟨(0 : Int32), (by first | omega | decide), (by first | omega | decide), rfl⟩)
  have hs7 : ct5 3 = .inr (7, [.int 0, .ref 4]) := by rw [ec6]; exact va_up_self _ _ _
  exact dv_vret dX7_clear_5 rfl (by first | exact Nat.zero_le _ | decide) (by first | exact Nat.zero_le _ | decide) (by subst hK; exact ⟨rfl, hI, (hs7)⟩)

set_option maxHeartbeats 4000000 in
set_option maxRecDepth 100000 in
theorem x_byteAt (l : Launch) (g : zG) (pe : Int32) (ct : Nat → va_E) (at0 : Int32) (hl_at0 : 0 ≤ at0.toInt ∧ at0.toInt ≤ 19) (hI : Inv8 g idn pe ct) (hs3 : ct 3 = .inr (7, [.int 20, .ref 4])) : DM l g pT false yX7_byteAt cX7_byteAt 2 (some .int) ({ frames := 1, cells := 0, slots := 0, locals := 22 }) (fun (ct2 : Nat → va_E) (rr : Option Value) => ∃ (r : Int32), rr = some (.int r) ∧ (((r = zar (ct 4) at0.toInt.toNat))) ∧ ct = ct2) ct [.ref 3, .int at0] := by
  refine DM.K (fun K hK => ?_)
  refine GW.met (own := RX7) (loc := [(0, .ref 3), (1, .int at0)]) (by decide) rfl rfl (Nat.le_of_ble_eq_true rfl) ?_
  have hpe0 := hI.1
  obtain ⟨len2, h3, h4, hs1⟩ := a8_3 hI
  have hs5 := hs3
  cases (hs3.symm.trans hs1)
  obtain ⟨f7, hs6⟩ := a8_4 hI
  have hz4 : zar (ct 4) = f7 := by rw [hs6]; rfl
  refine dv_iload_n dX7_byteAt_0 rfl 1 rfl ?_
  refine dv_iconst (v := 0) dX7_byteAt_1 (by decide) ?_
  refine dv_aload_n dX7_byteAt_2 rfl 0 rfl ?_
  refine dv_get (ci := 7) (v := .int 20) (C := RX7) (T := TX7) (N := 2) ⟨by decide, rfl⟩ hs5 rfl inG7 0 (by decide) mm_79 rfl dX7_byteAt_3 ?_
  refine dv_iconst (v := 1) dX7_byteAt_6 (by decide) ?_
  refine dv_isub dX7_byteAt_7 ?_
  refine dv_topi (fun x8 ex8 => ?_)
  obtain rfl : x8 = 19 := ex8.trans (by decide)
  refine GW.callSN (n := 3) (As := [.int at0, .int 0, .int 19]) (rest := []) (k_X8_within l g pe ct at0 (0 : Int32) (19 : Int32) hI) (fun _ h => Bool.noConfusion h) rfl rfl 9 rfl mm_356 mm_52 mm_357 (by decide +kernel) ⟨Nat.le_of_ble_eq_true rfl, Nat.le_of_ble_eq_true rfl⟩ rfl (Nat.le_of_ble_eq_true rfl) dX7_byteAt_8 (Nat.zero_le _) (Nat.zero_le _) rfl (fun ct9 rrr10 hBr10 hoff11 => ?_)
  obtain ⟨r10, rfl, hr10, rfl⟩ := hBr10
  refine GW.eq (S2 := [.int r10]) rfl rfl rfl ?_
  rcases hr10 with hr10 | hr10
  · skip
    obtain ⟨rfl, h12, h13⟩ := hr10
    have h12 : (0 : Int) ≤ at0.toInt := h12
    have h13 : at0.toInt ≤ (19 : Int) := h13
    refine dv_if_eq (tgt := 23) dX7_byteAt_11 (by decide) (fun c14 => ?_) (fun c14 => ?_)
    · skip
      exact absurd c14 (by decide)
    · skip
      refine dv_aload_n dX7_byteAt_14 rfl 0 rfl ?_
      refine dv_get (ci := 7) (v := .ref 4) (C := RX7) (T := TX7) (N := 2) ⟨by decide, rfl⟩ hs5 rfl inG7 1 (by decide) mm_81 rfl dX7_byteAt_15 ?_
      refine dv_iload_n dX7_byteAt_18 rfl 1 rfl ?_
      refine dv_iald 0 ⟨by decide, rfl⟩ hs6 rfl (z_in rfl (by omega) (by omega)) dX7_byteAt_19 ?_
      refine dv_topi (fun y15 ey15 => ?_)
      refine dv_goto (tgt := 24) dX7_byteAt_20 (by decide) ?_
      exact dv_iret dX7_byteAt_24 rfl (by first | exact Nat.zero_le _ | decide) (by first | exact Nat.zero_le _ | decide) (by subst hK; exact ⟨y15, rfl, (by rw [hz4, ey15]; exact congrArg _ (z_cl (by omega))), rfl⟩)
  · skip
    obtain ⟨rfl, h16⟩ := hr10
    have h16 : ¬ ((0 : Int) ≤ at0.toInt ∧ at0.toInt ≤ (19 : Int)) := h16
    exfalso
    omega

set_option maxHeartbeats 4000000 in
set_option maxRecDepth 100000 in
theorem x_tells (l : Launch) (g : zG) (pe : Int32) (ct : Nat → va_E) (n : Int32) (hl_n : 1 ≤ n.toInt ∧ n.toInt ≤ 8) (hI : Inv8 g idn pe ct) (hs3 : ct 3 = .inr (7, [.int 20, .ref 4])) (hbp : ∀ j : Nat, (j : Int) < n.toInt → 0 ≤ (zar (ct 4) j).toInt ∧ (zar (ct 4) j).toInt < pe.toInt) (hbd : ∀ i j : Nat, i < j → (j : Int) < n.toInt → ¬ (zar (ct 4) i).toInt = (zar (ct 4) j).toInt) : DM l g pCl false yX8_tellsPeople cX8_tellsPeople 5 (some .boolean) ({ frames := 2, cells := 0, slots := 0, locals := 43 }) (fun (ct2 : Nat → va_E) (rr : Option Value) => ∃ (r : Int32), rr = some (.int r) ∧ ((r = 1)) ∧ ct = ct2) ct [.ref 0, .int n] := by
  refine DM.K (fun K hK => ?_)
  refine GW.met (own := RX8) (loc := [(0, .ref 0), (1, .int n)]) (by decide) rfl rfl (Nat.le_of_ble_eq_true rfl) ?_
  have hpe0 := hI.1
  obtain ⟨len2, h3, h4, hs1⟩ := a8_3 hI
  have hs5 := hs3
  cases (hs3.symm.trans hs1)
  refine dv_iconst (v := 0) dX8_tellsPeople_0 (by decide) ?_
  refine dv_istore_n (lv' := [(2, .int 0), (0, .ref 0), (1, .int n)]) dX8_tellsPeople_1 rfl (by decide) rfl ?_
  refine dv_iconst (v := 0) dX8_tellsPeople_2 (by decide) ?_
  refine dv_istore_n (lv' := [(3, .int 0), (2, .int 0), (0, .ref 0), (1, .int n)]) dX8_tellsPeople_3 rfl (by decide) rfl ?_
  have loop4 : ∀ (n4 : Nat) (v3_4 : Int32) (v2_4 : Int32), ((n.toInt - v3_4.toInt : Int).toNat < n4) → (0 ≤ v3_4.toInt ∧ v3_4.toInt ≤ 8) → (0 ≤ v2_4.toInt ∧ v2_4.toInt ≤ 65535) → (∀ j : Nat, v3_4.toInt ≤ (j : Int) → (j : Int) < n.toInt → ib v2_4 (zar (ct 4) j).toInt.toNat = false) → GW l g pCl pCl false yX8_tellsPeople cX8_tellsPeople 5 (some .boolean) RX8 ({ frames := 2, cells := 0, slots := 0, locals := 43 }) K 0 0 ct 4 [(3, .int v3_4), (2, .int v2_4), (0, .ref 0), (1, .int n)] [] := by
    intro n4
    induction n4 with
    | zero =>
      intro v3_4 v2_4 hn4 b3_4 b2_4 j0_4
      exact absurd hn4 (Nat.not_lt_zero _)
    | succ n4 ih4 =>
      intro v3_4 v2_4 hn4 b3_4 b2_4 j0_4
      refine dv_iload_n dX8_tellsPeople_4 rfl 0 rfl ?_
      refine dv_iload_n dX8_tellsPeople_5 rfl 3 rfl ?_
      refine dv_icmp_ge (tgt := 53) dX8_tellsPeople_6 (by decide) (fun c6 => ?_) (fun c6 => ?_)
      · skip
        have c6 : n.toInt ≤ v3_4.toInt := (z_le rfl rfl).mp c6
        refine dv_iconst (v := 1) dX8_tellsPeople_53 (by decide) ?_
        have q7 : (1 : Int32).toInt = 1 := by decide
        exact dv_zret dX8_tellsPeople_54 rfl rfl (by first | exact Nat.zero_le _ | decide) (by first | exact Nat.zero_le _ | decide) (by subst hK; exact ⟨1, rfl, (rfl), rfl⟩)
      · skip
        have c6 : ¬ (n.toInt ≤ v3_4.toInt) := fun q => c6 ((z_le rfl rfl).mpr q)
        refine dv_aload_n dX8_tellsPeople_9 rfl 2 rfl ?_
        obtain ⟨bk10, dr9, h11, h12, h13, hs8⟩ := a8_0 hI
        refine dv_get (ci := 8) (v := .ref 3) (C := RX8) (T := TX8) (N := 13) ⟨by decide, rfl⟩ hs8 rfl inG8 2 (by decide) mm_305 rfl dX8_tellsPeople_10 ?_
        refine dv_iload_n dX8_tellsPeople_13 rfl 0 rfl ?_
        refine GW.callV (n := 1) (As := [.int v3_4]) (rest := []) (b := 3) (x_byteAt l g pe ct v3_4 (by first | omega | decide) hI hs5) sub_pT_pCl rfl rfl ⟨by decide, rfl⟩ hs5 (q := (RX7, TX7, 2)) rfl mm_365 mm_366 mm_367 mm_53 mm_368 (by decide +kernel) ⟨Nat.le_of_ble_eq_true rfl, Nat.le_of_ble_eq_true rfl⟩ rfl (Nat.le_of_ble_eq_true rfl) dX8_tellsPeople_14 (Nat.zero_le _) (Nat.zero_le _) rfl (fun ct14 rrr15 hBr15 hoff16 => ?_)
        obtain ⟨r15, rfl, hr15, rfl⟩ := hBr15
        refine GW.eq (S2 := [.int r15]) rfl rfl rfl ?_
        have h17 := hr15
        have h17 : r15 = zar (ct 4) v3_4.toInt.toNat := h17
        have hpr := hbp v3_4.toInt.toNat (by omega)
        rw [← h17] at hpr
        have hold := j0_4 v3_4.toInt.toNat (by omega) (by omega)
        rw [← h17] at hold
        refine dv_istore (lv' := [(4, .int r15), (3, .int v3_4), (2, .int v2_4), (0, .ref 0), (1, .int n)]) dX8_tellsPeople_17 (by decide) rfl ?_
        refine dv_aload_n dX8_tellsPeople_19 rfl 3 rfl ?_
        refine dv_iload dX8_tellsPeople_20 0 rfl ?_
        refine GW.callV (n := 1) (As := [.int r15]) (rest := []) (b := 0) (k_X8_isPerson l g pe ct r15 hI) (fun _ h => h) rfl rfl ⟨by decide, rfl⟩ hs8 (q := (RX8, TX8, 13)) rfl mm_370 mm_372 mm_1 mm_52 mm_373 (by decide +kernel) ⟨Nat.le_of_ble_eq_true rfl, Nat.le_of_ble_eq_true rfl⟩ rfl (Nat.le_of_ble_eq_true rfl) dX8_tellsPeople_22 (Nat.zero_le _) (Nat.zero_le _) rfl (fun ct18 rrr19 hBr19 hoff20 => ?_)
        obtain ⟨r19, rfl, hr19, rfl⟩ := hBr19
        refine GW.eq (S2 := [.int r19]) rfl rfl rfl ?_
        rcases hr19 with hr19 | hr19
        · skip
          obtain ⟨rfl, h21, h22⟩ := hr19
          have h21 : 0 ≤ r15.toInt := h21
          have h22 : r15.toInt < pe.toInt := h22
          refine dv_if_eq (tgt := 38) dX8_tellsPeople_25 (by decide) (fun c23 => ?_) (fun c23 => ?_)
          · skip
            exact absurd c23 (by decide)
          · skip
            refine dv_iload_n dX8_tellsPeople_28 rfl 2 rfl ?_
            refine dv_iload dX8_tellsPeople_29 0 rfl ?_
            refine dv_ishr dX8_tellsPeople_31 ?_
            refine dv_topi (fun x24 ex24 => ?_)
            have tx24 := z_shr (x := v2_4) rfl (by omega) r15
            rw [← ex24] at tx24
            refine dv_iconst (v := 1) dX8_tellsPeople_32 (by decide) ?_
            refine dv_iand dX8_tellsPeople_33 ?_
            refine dv_topi (fun x25 ex25 => ?_)
            have tx25 := z_andr (x := x24) (y := 1) (by decide : (1 : Int32).toInt = 1) (by omega)
            rw [← ex25] at tx25
            refine dv_iconst (v := 1) dX8_tellsPeople_34 (by decide) ?_
            refine dv_icmp_ne (tgt := 40) dX8_tellsPeople_35 (by decide) (fun c26 => ?_) (fun c26 => ?_)
            · skip
              have c26 : ¬ (x25.toInt = 1) := fun q => c26 ((z_eq rfl (by decide : (1 : Int32).toInt = 1)).mpr q)
              refine dv_iload_n dX8_tellsPeople_40 rfl 2 rfl ?_
              refine dv_iconst (v := 1) dX8_tellsPeople_41 (by decide) ?_
              refine dv_iload dX8_tellsPeople_42 0 rfl ?_
              refine dv_ishl dX8_tellsPeople_44 ?_
              refine dv_topi (fun x27 ex27 => ?_)
              have tx27 := z_shl1 (y := r15) rfl (by omega) (k := 15) (by decide) (by omega)
              rw [← ex27] at tx27
              refine dv_ior dX8_tellsPeople_45 ?_
              refine dv_topi (fun x28 ex28 => ?_)
              have tx28 := z_or (x := v2_4) (y := x27) rfl rfl (k := 16) (N := 65536) (by decide) (by decide) (by omega) (by omega) (by omega) (by omega)
              rw [← ex28] at tx28
              refine dv_istore_n (lv' := [(2, .int x28), (4, .int r15), (3, .int v3_4), (0, .ref 0), (1, .int n)]) dX8_tellsPeople_46 rfl (by decide) rfl ?_
              obtain ⟨x29, ex29⟩ : ∃ y : Int32, y = v3_4 + 1 := ⟨_, rfl⟩
              have tx29 : x29.toInt = v3_4.toInt + 1 := by rw [ex29]; exact z_add rfl (by decide : (1 : Int32).toInt = 1) (by omega) (by omega)
              refine dv_iinc (v := x29) (lv' := [(3, .int x29), (2, .int x28), (4, .int r15), (0, .ref 0), (1, .int n)]) dX8_tellsPeople_47 (k := 2) rfl (by rw [ex29]; rfl) (by decide) rfl ?_
              refine dv_goto (tgt := 4) dX8_tellsPeople_50 (by decide) ?_
              refine dv_sub (loc2 := [(3, .int x29), (2, .int x28), (0, .ref 0), (1, .int n)]) [0, 1, 3, 4] rfl ?_
              exact ih4 x29 x28 (by omega) (by omega) (by omega) (fun j h1 h2 => ib_set (by omega) (fun z => hbd v3_4.toInt.toNat j (by omega) h2 (by rw [← h17]; have q1 := hbp j h2; omega)) (j0_4 j (by omega) h2) ex27 ex28)
            · skip
              have c26 : x25.toInt = 1 := (z_eq rfl (by decide : (1 : Int32).toInt = 1)).mp c26
              have hbt : ib v2_4 (r15.toInt.toNat) = true := by
                rcases zb_ask (x := v2_4) (y := r15) (p := r15.toInt.toNat) (by omega) (by omega) (by omega) (ex25.trans (by rw [ex24])) with ⟨q1, q2⟩ | ⟨q1, q2⟩
                · first | exact q2 | (exfalso; omega)
                · first | exact q2 | (exfalso; omega)
              rw [hold] at hbt
              exact absurd hbt (by decide)
        · skip
          obtain ⟨rfl, h30⟩ := hr19
          have h30 : ¬ (0 ≤ r15.toInt ∧ r15.toInt < pe.toInt) := h30
          exfalso
          omega
  exact loop4 ((n.toInt - (0 : Int32).toInt : Int).toNat + 1) (0 : Int32) (0 : Int32) (by omega) (by first | omega | decide | (have hz0 : (0 : Int32).toInt = 0 := (by decide); have hz1 : (1 : Int32).toInt = 1 := (by decide); omega)) (by first | omega | decide | (have hz0 : (0 : Int32).toInt = 0 := (by decide); have hz1 : (1 : Int32).toInt = 1 := (by decide); omega)) (fun j _ _ => ib_no.mpr zb_0)

set_option maxHeartbeats 4000000 in
set_option maxRecDepth 100000 in
theorem x_book (l : Launch) (g : zG) (pe : Int32) (ct : Nat → va_E) (n : Int32) (l0 : Int32) (l1 : Int32) (l2 : Int32) (l3 : Int32) (hl_n : 1 ≤ n.toInt ∧ n.toInt ≤ 8) (hl_l0 : 0 ≤ l0.toInt ∧ l0.toInt ≤ 4) (hl_l1 : 0 ≤ l1.toInt ∧ l1.toInt ≤ 4) (hl_l2 : 0 ≤ l2.toInt ∧ l2.toInt ≤ 4) (hl_l3 : 0 ≤ l3.toInt ∧ l3.toInt ≤ 4) (hI : Inv8 g idn pe ct) (hs3 : ct 3 = .inr (7, [.int 20, .ref 4])) (hbp : ∀ j : Nat, (j : Int) < n.toInt → 0 ≤ (zar (ct 4) j).toInt ∧ (zar (ct 4) j).toInt < pe.toInt) (hbd : ∀ i j : Nat, i < j → (j : Int) < n.toInt → ¬ (zar (ct 4) i).toInt = (zar (ct 4) j).toInt) (hbk : (zf 12 (ct 0)).toInt ≤ 3) : DM l g pCl false yX8_book cX8_book 9 (some .int) ({ frames := 3, cells := 0, slots := 0, locals := 71 }) (fun (ct2 : Nat → va_E) (rr : Option Value) => ∃ (r : Int32), rr = some (.int r) ∧ (((r.toInt = (zf 12 (ct 0)).toInt))) ∧ Inv8 g idn pe ct2 ∧ ((zf 12 (ct2 0)).toInt = (zf 12 (ct 0)).toInt + 1) ∧ (ct2 3 = .inr (7, [.int 0, .ref 4]))) ct [.ref 0, .int n, .int l0, .int l1, .int l2, .int l3] := by
  refine DM.K (fun K hK => ?_)
  refine GW.met (own := RX8) (loc := [(0, .ref 0), (1, .int n), (2, .int l0), (3, .int l1), (4, .int l2), (5, .int l3)]) (by decide) rfl rfl (Nat.le_of_ble_eq_true rfl) ?_
  have hpe0 := hI.1
  obtain ⟨len2, h3, h4, hs1⟩ := a8_3 hI
  have hs5 := hs3
  cases (hs3.symm.trans hs1)
  have hk0 : ct 0 = ct 0 := rfl
  obtain ⟨bk8, dr7, h9, h10, h11, hs6⟩ := a8_0 hI
  have hzb : (bkF ct).toInt = bk8.toInt := by unfold bkF; rw [hs6]; rfl
  have hzc : (zf 12 (ct 0)).toInt = bk8.toInt := hzb
  refine dv_iload_n dX8_book_0 rfl 1 rfl ?_
  refine dv_iconst (v := 1) dX8_book_1 (by decide) ?_
  refine dv_bipush (v := 8) dX8_book_2 (by decide) ?_
  refine GW.callS (n := 3) (As := [.int n, .int 1, .int 8]) (rest := []) (k_X8_within l g pe ct n (1 : Int32) (8 : Int32) hI) (fun _ h => Bool.noConfusion h) rfl rfl mm_355 mm_356 mm_52 mm_357 (by decide +kernel) ⟨Nat.le_of_ble_eq_true rfl, Nat.le_of_ble_eq_true rfl⟩ rfl (Nat.le_of_ble_eq_true rfl) dX8_book_4 (Nat.zero_le _) (Nat.zero_le _) rfl (fun ct12 rrr13 hBr13 hoff14 => ?_)
  obtain ⟨r13, rfl, hr13, rfl⟩ := hBr13
  refine GW.eq (S2 := [.int r13]) rfl rfl rfl ?_
  rcases hr13 with hr13 | hr13
  · skip
    obtain ⟨rfl, h15, h16⟩ := hr13
    have h15 : (1 : Int) ≤ n.toInt := h15
    have h16 : n.toInt ≤ (8 : Int) := h16
    refine dv_if_eq (tgt := 29) dX8_book_7 (by decide) (fun c17 => ?_) (fun c17 => ?_)
    · skip
      exact absurd c17 (by decide)
    · skip
      refine dv_aload_n dX8_book_10 rfl 0 rfl ?_
      refine dv_get (ci := 8) (v := .int bk8) (C := RX8) (T := TX8) (N := 13) ⟨by decide, rfl⟩ hs6 rfl inG8 12 (by decide) mm_315 rfl dX8_book_11 ?_
      refine dv_iconst (v := 4) dX8_book_14 (by decide) ?_
      refine dv_icmp_ge (tgt := 29) dX8_book_15 (by decide) (fun c18 => ?_) (fun c18 => ?_)
      · skip
        have c18 : 4 ≤ bk8.toInt := (z_le (by decide : (4 : Int32).toInt = 4) rfl).mp c18
        exfalso
        omega
      · skip
        have c18 : ¬ (4 ≤ bk8.toInt) := fun q => c18 ((z_le (by decide : (4 : Int32).toInt = 4) rfl).mpr q)
        refine dv_aload_n dX8_book_18 rfl 0 rfl ?_
        refine dv_get (ci := 8) (v := .ref 3) (C := RX8) (T := TX8) (N := 13) ⟨by decide, rfl⟩ hs6 rfl inG8 2 (by decide) mm_305 rfl dX8_book_19 ?_
        refine dv_get (ci := 7) (v := .int 20) (C := RX7) (T := TX7) (N := 2) ⟨by decide, rfl⟩ hs5 rfl inG7 0 (by decide) mm_80 rfl dX8_book_22 ?_
        refine dv_iload_n dX8_book_25 rfl 1 rfl ?_
        refine dv_icmp_ge (tgt := 31) dX8_book_26 (by decide) (fun c19 => ?_) (fun c19 => ?_)
        · skip
          have c19 : n.toInt ≤ 20 := (z_le rfl (by decide : (20 : Int32).toInt = 20)).mp c19
          refine dv_iload_n dX8_book_31 rfl 2 rfl ?_
          refine GW.callS (n := 1) (As := [.int l0]) (rest := []) (k_X8_isLevel l g pe ct l0 hI) (fun _ h => Bool.noConfusion h) rfl rfl mm_358 mm_359 mm_52 mm_360 (by decide +kernel) ⟨Nat.le_of_ble_eq_true rfl, Nat.le_of_ble_eq_true rfl⟩ rfl (Nat.le_of_ble_eq_true rfl) dX8_book_32 (Nat.zero_le _) (Nat.zero_le _) rfl (fun ct20 rrr21 hBr21 hoff22 => ?_)
          obtain ⟨r21, rfl, hr21, rfl⟩ := hBr21
          refine GW.eq (S2 := [.int r21]) rfl rfl rfl ?_
          rcases hr21 with hr21 | hr21
          · skip
            obtain ⟨rfl, h23, h24⟩ := hr21
            have h23 : 0 ≤ l0.toInt := h23
            have h24 : l0.toInt ≤ 4 := h24
            refine dv_if_eq (tgt := 61) dX8_book_35 (by decide) (fun c25 => ?_) (fun c25 => ?_)
            · skip
              exact absurd c25 (by decide)
            · skip
              refine dv_iload_n dX8_book_38 rfl 3 rfl ?_
              refine GW.callS (n := 1) (As := [.int l1]) (rest := []) (k_X8_isLevel l g pe ct l1 hI) (fun _ h => Bool.noConfusion h) rfl rfl mm_358 mm_359 mm_52 mm_360 (by decide +kernel) ⟨Nat.le_of_ble_eq_true rfl, Nat.le_of_ble_eq_true rfl⟩ rfl (Nat.le_of_ble_eq_true rfl) dX8_book_39 (Nat.zero_le _) (Nat.zero_le _) rfl (fun ct26 rrr27 hBr27 hoff28 => ?_)
              obtain ⟨r27, rfl, hr27, rfl⟩ := hBr27
              refine GW.eq (S2 := [.int r27]) rfl rfl rfl ?_
              rcases hr27 with hr27 | hr27
              · skip
                obtain ⟨rfl, h29, h30⟩ := hr27
                have h29 : 0 ≤ l1.toInt := h29
                have h30 : l1.toInt ≤ 4 := h30
                refine dv_if_eq (tgt := 61) dX8_book_42 (by decide) (fun c31 => ?_) (fun c31 => ?_)
                · skip
                  exact absurd c31 (by decide)
                · skip
                  refine dv_iload dX8_book_45 4 rfl ?_
                  refine GW.callS (n := 1) (As := [.int l2]) (rest := []) (k_X8_isLevel l g pe ct l2 hI) (fun _ h => Bool.noConfusion h) rfl rfl mm_358 mm_359 mm_52 mm_360 (by decide +kernel) ⟨Nat.le_of_ble_eq_true rfl, Nat.le_of_ble_eq_true rfl⟩ rfl (Nat.le_of_ble_eq_true rfl) dX8_book_47 (Nat.zero_le _) (Nat.zero_le _) rfl (fun ct32 rrr33 hBr33 hoff34 => ?_)
                  obtain ⟨r33, rfl, hr33, rfl⟩ := hBr33
                  refine GW.eq (S2 := [.int r33]) rfl rfl rfl ?_
                  rcases hr33 with hr33 | hr33
                  · skip
                    obtain ⟨rfl, h35, h36⟩ := hr33
                    have h35 : 0 ≤ l2.toInt := h35
                    have h36 : l2.toInt ≤ 4 := h36
                    refine dv_if_eq (tgt := 61) dX8_book_50 (by decide) (fun c37 => ?_) (fun c37 => ?_)
                    · skip
                      exact absurd c37 (by decide)
                    · skip
                      refine dv_iload dX8_book_53 5 rfl ?_
                      refine GW.callS (n := 1) (As := [.int l3]) (rest := []) (k_X8_isLevel l g pe ct l3 hI) (fun _ h => Bool.noConfusion h) rfl rfl mm_358 mm_359 mm_52 mm_360 (by decide +kernel) ⟨Nat.le_of_ble_eq_true rfl, Nat.le_of_ble_eq_true rfl⟩ rfl (Nat.le_of_ble_eq_true rfl) dX8_book_55 (Nat.zero_le _) (Nat.zero_le _) rfl (fun ct38 rrr39 hBr39 hoff40 => ?_)
                      obtain ⟨r39, rfl, hr39, rfl⟩ := hBr39
                      refine GW.eq (S2 := [.int r39]) rfl rfl rfl ?_
                      rcases hr39 with hr39 | hr39
                      · skip
                        obtain ⟨rfl, h41, h42⟩ := hr39
                        have h41 : 0 ≤ l3.toInt := h41
                        have h42 : l3.toInt ≤ 4 := h42
                        refine dv_if_ne (tgt := 63) dX8_book_58 (by decide) (fun c43 => ?_) (fun c43 => ?_)
                        · skip
                          refine dv_aload_n dX8_book_63 rfl 0 rfl ?_
                          refine dv_iload_n dX8_book_64 rfl 1 rfl ?_
                          refine GW.callV (n := 1) (As := [.int n]) (rest := []) (b := 0) (x_tells l g pe ct n (by first | omega | decide) hI hs5 (by first | omega | assumption | decide) (by first | omega | assumption | decide)) (fun _ h => h) rfl rfl ⟨by decide, rfl⟩ hs6 (q := (RX8, TX8, 13)) rfl mm_361 mm_363 mm_0 mm_52 mm_364 (by decide +kernel) ⟨Nat.le_of_ble_eq_true rfl, Nat.le_of_ble_eq_true rfl⟩ rfl (Nat.le_of_ble_eq_true rfl) dX8_book_65 (Nat.zero_le _) (Nat.zero_le _) rfl (fun ct44 rrr45 hBr45 hoff46 => ?_)
                          obtain ⟨r45, rfl, hr45, rfl⟩ := hBr45
                          refine GW.eq (S2 := [.int r45]) rfl rfl rfl ?_
                          obtain rfl := hr45
                          refine dv_istore (lv' := [(6, .int 1), (0, .ref 0), (1, .int n), (2, .int l0), (3, .int l1), (4, .int l2), (5, .int l3)]) dX8_book_68 (by decide) rfl ?_
                          refine dv_iload dX8_book_70 0 rfl ?_
                          refine dv_if_eq (tgt := 159) dX8_book_72 (by decide) (fun c47 => ?_) (fun c47 => ?_)
                          · skip
                            exact absurd c47 (by decide)
                          · skip
                            refine dv_aload_n dX8_book_75 rfl 1 rfl ?_
                            refine dv_get (ci := 8) (v := .ref 5) (C := RX8) (T := TX8) (N := 13) ⟨by decide, rfl⟩ hs6 rfl inG8 3 (by decide) mm_306 rfl dX8_book_76 ?_
                            refine dv_aload_n dX8_book_79 rfl 1 rfl ?_
                            refine dv_get (ci := 8) (v := .int bk8) (C := RX8) (T := TX8) (N := 13) ⟨by decide, rfl⟩ hs6 rfl inG8 12 (by decide) mm_315 rfl dX8_book_80 ?_
                            have hs48 := a8_5 hI
                            refine dv_aldq 5 ⟨by decide, rfl⟩ hs48 rfl (z_in rfl (by omega) (by omega)) dX8_book_83 (r := (0 + 55 + 11 * bk8.toInt.toNat)) (zF5_r (x := bk8) (by omega) (by omega)) ?_
                            refine dv_astore (lv' := [(7, .ref (0 + 55 + 11 * bk8.toInt.toNat)), (6, .int 1), (0, .ref 0), (1, .int n), (2, .int l0), (3, .int l1), (4, .int l2), (5, .int l3)]) dX8_book_84 (by decide) rfl ?_
                            refine dv_iconst (v := 0) dX8_book_86 (by decide) ?_
                            refine dv_istore (lv' := [(8, .int 0), (7, .ref (0 + 55 + 11 * bk8.toInt.toNat)), (6, .int 1), (0, .ref 0), (1, .int n), (2, .int l0), (3, .int l1), (4, .int l2), (5, .int l3)]) dX8_book_87 (by decide) rfl ?_
                            have loop89 : ∀ (n89 : Nat) (v8_89 : Int32) (ct49 : Nat → va_E), ((8 - v8_89.toInt : Int).toNat < n89) → (0 ≤ v8_89.toInt ∧ v8_89.toInt ≤ 8) → (ct49 0 = ct 0) → (Inv8 g idn pe ct49) → GW l g pCl pCl false yX8_book cX8_book 9 (some .int) RX8 ({ frames := 3, cells := 0, slots := 0, locals := 71 }) K 0 0 ct49 89 [(8, .int v8_89), (7, .ref (0 + 55 + 11 * bk8.toInt.toNat)), (6, .int 1), (0, .ref 0), (1, .int n), (2, .int l0), (3, .int l1), (4, .int l2), (5, .int l3)] [] := by
                              intro n89
                              induction n89 with
                              | zero =>
                                intro v8_89 ct49 hn89 b8_89 hk0 hI
                                exact absurd hn89 (Nat.not_lt_zero _)
                              | succ n89 ih89 =>
                                intro v8_89 ct49 hn89 b8_89 hk0 hI
                                have hs50 : ct49 0 = .inr (8, [.ref 1, .ref 2, .ref 3, .ref 5, .ref 6, .ref 9, .ref 10, .ref 17, .ref 21, .ref 34, .ref (99 + 3 * dr7), .int pe, .int bk8]) := hk0.trans hs6
                                refine dv_iload dX8_book_89 0 rfl ?_
                                refine dv_iload_n dX8_book_91 rfl 4 rfl ?_
                                refine dv_icmp_ge (tgt := 115) dX8_book_92 (by decide) (fun c51 => ?_) (fun c51 => ?_)
                                · skip
                                  have c51 : n.toInt ≤ v8_89.toInt := (z_le rfl rfl).mp c51
                                  refine dv_aload_n dX8_book_115 rfl 3 rfl ?_
                                  refine dv_aload dX8_book_116 1 rfl ?_
                                  refine dv_iconst (v := 0) dX8_book_118 (by decide) ?_
                                  refine dv_iload_n dX8_book_119 rfl 5 rfl ?_
                                  refine GW.callV (n := 3) (As := [.ref (0 + 55 + 11 * bk8.toInt.toNat), .int 0, .int l0]) (rest := []) (b := 0) (k_X8_fillColumn l g pe ct49 (0 + 55 + 11 * bk8.toInt.toNat) (0 : Int32) l0 (by omega) (by first | omega | decide) hI) (fun _ h => h) rfl rfl ⟨by decide, rfl⟩ hs50 (q := (RX8, TX8, 13)) rfl mm_378 mm_380 mm_2 mm_52 mm_381 (by decide +kernel) ⟨Nat.le_of_ble_eq_true rfl, Nat.le_of_ble_eq_true rfl⟩ rfl (Nat.le_of_ble_eq_true rfl) dX8_book_120 (Nat.zero_le _) (Nat.zero_le _) rfl (fun ct52 rrr53 hBr53 hoff54 => ?_)
                                  obtain ⟨rfl, hI, hk55⟩ := hBr53
                                  refine GW.eq (S2 := []) rfl rfl rfl ?_
                                  have hs56 : ct52 0 = .inr (8, [.ref 1, .ref 2, .ref 3, .ref 5, .ref 6, .ref 9, .ref 10, .ref 17, .ref 21, .ref 34, .ref (99 + 3 * dr7), .int pe, .int bk8]) := hk55.trans hs50
                                  have hk0 : ct52 0 = ct 0 := hk55.trans hk0
                                  have hs57 : ct52 0 = .inr (8, [.ref 1, .ref 2, .ref 3, .ref 5, .ref 6, .ref 9, .ref 10, .ref 17, .ref 21, .ref 34, .ref (99 + 3 * dr7), .int pe, .int bk8]) := hk0.trans hs6
                                  refine dv_aload_n dX8_book_123 rfl 3 rfl ?_
                                  refine dv_aload dX8_book_124 1 rfl ?_
                                  refine dv_iconst (v := 1) dX8_book_126 (by decide) ?_
                                  refine dv_iload_n dX8_book_127 rfl 6 rfl ?_
                                  refine GW.callV (n := 3) (As := [.ref (0 + 55 + 11 * bk8.toInt.toNat), .int 1, .int l1]) (rest := []) (b := 0) (k_X8_fillColumn l g pe ct52 (0 + 55 + 11 * bk8.toInt.toNat) (1 : Int32) l1 (by omega) (by first | omega | decide) hI) (fun _ h => h) rfl rfl ⟨by decide, rfl⟩ hs57 (q := (RX8, TX8, 13)) rfl mm_378 mm_380 mm_2 mm_52 mm_381 (by decide +kernel) ⟨Nat.le_of_ble_eq_true rfl, Nat.le_of_ble_eq_true rfl⟩ rfl (Nat.le_of_ble_eq_true rfl) dX8_book_128 (Nat.zero_le _) (Nat.zero_le _) rfl (fun ct58 rrr59 hBr59 hoff60 => ?_)
                                  obtain ⟨rfl, hI, hk61⟩ := hBr59
                                  refine GW.eq (S2 := []) rfl rfl rfl ?_
                                  have hs62 : ct58 0 = .inr (8, [.ref 1, .ref 2, .ref 3, .ref 5, .ref 6, .ref 9, .ref 10, .ref 17, .ref 21, .ref 34, .ref (99 + 3 * dr7), .int pe, .int bk8]) := hk61.trans hs57
                                  have hk0 : ct58 0 = ct 0 := hk61.trans hk0
                                  have hs63 : ct58 0 = .inr (8, [.ref 1, .ref 2, .ref 3, .ref 5, .ref 6, .ref 9, .ref 10, .ref 17, .ref 21, .ref 34, .ref (99 + 3 * dr7), .int pe, .int bk8]) := hk0.trans hs6
                                  refine dv_aload_n dX8_book_131 rfl 3 rfl ?_
                                  refine dv_aload dX8_book_132 1 rfl ?_
                                  refine dv_iconst (v := 2) dX8_book_134 (by decide) ?_
                                  refine dv_iload dX8_book_135 7 rfl ?_
                                  refine GW.callV (n := 3) (As := [.ref (0 + 55 + 11 * bk8.toInt.toNat), .int 2, .int l2]) (rest := []) (b := 0) (k_X8_fillColumn l g pe ct58 (0 + 55 + 11 * bk8.toInt.toNat) (2 : Int32) l2 (by omega) (by first | omega | decide) hI) (fun _ h => h) rfl rfl ⟨by decide, rfl⟩ hs63 (q := (RX8, TX8, 13)) rfl mm_378 mm_380 mm_2 mm_52 mm_381 (by decide +kernel) ⟨Nat.le_of_ble_eq_true rfl, Nat.le_of_ble_eq_true rfl⟩ rfl (Nat.le_of_ble_eq_true rfl) dX8_book_137 (Nat.zero_le _) (Nat.zero_le _) rfl (fun ct64 rrr65 hBr65 hoff66 => ?_)
                                  obtain ⟨rfl, hI, hk67⟩ := hBr65
                                  refine GW.eq (S2 := []) rfl rfl rfl ?_
                                  have hs68 : ct64 0 = .inr (8, [.ref 1, .ref 2, .ref 3, .ref 5, .ref 6, .ref 9, .ref 10, .ref 17, .ref 21, .ref 34, .ref (99 + 3 * dr7), .int pe, .int bk8]) := hk67.trans hs63
                                  have hk0 : ct64 0 = ct 0 := hk67.trans hk0
                                  have hs69 : ct64 0 = .inr (8, [.ref 1, .ref 2, .ref 3, .ref 5, .ref 6, .ref 9, .ref 10, .ref 17, .ref 21, .ref 34, .ref (99 + 3 * dr7), .int pe, .int bk8]) := hk0.trans hs6
                                  refine dv_aload_n dX8_book_140 rfl 3 rfl ?_
                                  refine dv_aload dX8_book_141 1 rfl ?_
                                  refine dv_iconst (v := 3) dX8_book_143 (by decide) ?_
                                  refine dv_iload dX8_book_144 8 rfl ?_
                                  refine GW.callV (n := 3) (As := [.ref (0 + 55 + 11 * bk8.toInt.toNat), .int 3, .int l3]) (rest := []) (b := 0) (k_X8_fillColumn l g pe ct64 (0 + 55 + 11 * bk8.toInt.toNat) (3 : Int32) l3 (by omega) (by first | omega | decide) hI) (fun _ h => h) rfl rfl ⟨by decide, rfl⟩ hs69 (q := (RX8, TX8, 13)) rfl mm_378 mm_380 mm_2 mm_52 mm_381 (by decide +kernel) ⟨Nat.le_of_ble_eq_true rfl, Nat.le_of_ble_eq_true rfl⟩ rfl (Nat.le_of_ble_eq_true rfl) dX8_book_146 (Nat.zero_le _) (Nat.zero_le _) rfl (fun ct70 rrr71 hBr71 hoff72 => ?_)
                                  obtain ⟨rfl, hI, hk73⟩ := hBr71
                                  refine GW.eq (S2 := []) rfl rfl rfl ?_
                                  have hs74 : ct70 0 = .inr (8, [.ref 1, .ref 2, .ref 3, .ref 5, .ref 6, .ref 9, .ref 10, .ref 17, .ref 21, .ref 34, .ref (99 + 3 * dr7), .int pe, .int bk8]) := hk73.trans hs69
                                  have hk0 : ct70 0 = ct 0 := hk73.trans hk0
                                  have hs75 : ct70 0 = .inr (8, [.ref 1, .ref 2, .ref 3, .ref 5, .ref 6, .ref 9, .ref 10, .ref 17, .ref 21, .ref 34, .ref (99 + 3 * dr7), .int pe, .int bk8]) := hk0.trans hs6
                                  refine dv_aload_n dX8_book_149 rfl 3 rfl ?_
                                  refine dv_dup dX8_book_150 rfl ?_
                                  refine dv_get (ci := 8) (v := .int bk8) (C := RX8) (T := TX8) (N := 13) ⟨by decide, rfl⟩ hs75 rfl inG8 12 (by decide) mm_315 rfl dX8_book_151 ?_
                                  refine dv_iconst (v := 1) dX8_book_154 (by decide) ?_
                                  refine dv_iadd dX8_book_155 ?_
                                  refine dv_topi (fun x76 ex76 => ?_)
                                  have tx76 : x76.toInt = bk8.toInt + 1 := by rw [ex76]; exact z_add rfl (by decide : (1 : Int32).toInt = 1) (by omega) (by omega)
                                  refine dv_put (ci := 8) (v := .int x76) (ty := .int) (C := RX8) (T := TX8) (N := 13) ⟨by decide, rfl⟩ hs75 rfl inG8 tyX8 tyX8_ok nmX8 12 (by decide) mm_315 rfl (by decide +kernel) (fun _ => rfl) (fun _ => rfl) (Nat.le_of_ble_eq_true rfl) dX8_book_156 (en := .inr (8, [.ref 1, .ref 2, .ref 3, .ref 5, .ref 6, .ref 9, .ref 10, .ref 17, .ref 21, .ref 34, .ref (99 + 3 * dr7), .int pe, .int x76])) rfl (fun ct77 ec78 => ?_)
                                  have hI : Inv8 g idn pe ct77 := by rw [ec78]; exact up8 hI (i8_0 ⟨(x76 : Int32), dr7, (by omega), (by first | omega | decide), (by first | omega | decide), rfl⟩)
                                  have hs79 : ct77 0 = .inr (8, [.ref 1, .ref 2, .ref 3, .ref 5, .ref 6, .ref 9, .ref 10, .ref 17, .ref 21, .ref 34, .ref (99 + 3 * dr7), .int pe, .int x76]) := by rw [ec78]; exact va_up_self _ _ _
                                  refine dv_aload_n dX8_book_159 rfl 3 rfl ?_
                                  refine dv_get (ci := 8) (v := .ref 3) (C := RX8) (T := TX8) (N := 13) ⟨by decide, rfl⟩ hs79 rfl inG8 2 (by decide) mm_305 rfl dX8_book_160 ?_
                                  obtain ⟨len82, h83, h84, hs81⟩ := a8_3 hI
                                  refine GW.callV (n := 0) (As := []) (rest := []) (b := 3) (x_clear l g pe ct77  hI) sub_pT_pCl rfl rfl ⟨by decide, rfl⟩ hs81 (q := (RX7, TX7, 2)) rfl mm_403 mm_404 mm_405 mm_53 mm_406 (by decide +kernel) ⟨Nat.le_of_ble_eq_true rfl, Nat.le_of_ble_eq_true rfl⟩ rfl (Nat.le_of_ble_eq_true rfl) dX8_book_163 (Nat.zero_le _) (Nat.zero_le _) rfl (fun ct80 rrr85 hBr85 hoff86 => ?_)
                                  obtain ⟨rfl, hI, hk87⟩ := hBr85
                                  refine GW.eq (S2 := []) rfl rfl rfl ?_
                                  have hs88 : ct80 0 = .inr (8, [.ref 1, .ref 2, .ref 3, .ref 5, .ref 6, .ref 9, .ref 10, .ref 17, .ref 21, .ref 34, .ref (99 + 3 * dr7), .int pe, .int x76]) := (hoff86 _ (pT_no (by decide))).trans hs79
                                  refine dv_iload dX8_book_166 2 rfl ?_
                                  refine dv_if_eq (tgt := 180) dX8_book_168 (by decide) (fun c89 => ?_) (fun c89 => ?_)
                                  · skip
                                    exact absurd c89 (by decide)
                                  · skip
                                    refine dv_aload_n dX8_book_171 rfl 3 rfl ?_
                                    refine dv_get (ci := 8) (v := .int x76) (C := RX8) (T := TX8) (N := 13) ⟨by decide, rfl⟩ hs88 rfl inG8 12 (by decide) mm_315 rfl dX8_book_172 ?_
                                    refine dv_iconst (v := 1) dX8_book_175 (by decide) ?_
                                    refine dv_isub dX8_book_176 ?_
                                    refine dv_topi (fun x90 ex90 => ?_)
                                    have tx90 : x90.toInt = x76.toInt - 1 := by rw [ex90]; exact z_sub rfl (by decide : (1 : Int32).toInt = 1) (by omega) (by omega)
                                    refine dv_goto (tgt := 182) dX8_book_177 (by decide) ?_
                                    exact dv_iret dX8_book_182 rfl (by first | exact Nat.zero_le _ | decide) (by first | exact Nat.zero_le _ | decide) (by subst hK; exact ⟨x90, rfl, (by omega), hI, (by rw [hs88]; show (x76 : Int32).toInt = _; omega), (hk87)⟩)
                                · skip
                                  have c51 : ¬ (n.toInt ≤ v8_89.toInt) := fun q => c51 ((z_le rfl rfl).mpr q)
                                  refine dv_aload dX8_book_95 1 rfl ?_
                                  refine dv_aload_n dX8_book_97 rfl 3 rfl ?_
                                  refine dv_get (ci := 8) (v := .ref 3) (C := RX8) (T := TX8) (N := 13) ⟨by decide, rfl⟩ hs50 rfl inG8 2 (by decide) mm_305 rfl dX8_book_98 ?_
                                  refine dv_iload dX8_book_101 0 rfl ?_
                                  obtain ⟨len93, h94, h95, hs92⟩ := a8_3 hI
                                  refine GW.callV (n := 1) (As := [.int v8_89]) (rest := [.ref (0 + 55 + 11 * bk8.toInt.toNat)]) (b := 3) (k_X7_byteAt l g pe ct49 v8_89 hI) sub_pT_pCl rfl rfl ⟨by decide, rfl⟩ hs92 (q := (RX7, TX7, 2)) rfl mm_365 mm_366 mm_367 mm_53 mm_368 (by decide +kernel) ⟨Nat.le_of_ble_eq_true rfl, Nat.le_of_ble_eq_true rfl⟩ rfl (Nat.le_of_ble_eq_true rfl) dX8_book_103 (Nat.zero_le _) (Nat.zero_le _) rfl (fun ct91 rrr96 hBr96 hoff97 => ?_)
                                  obtain ⟨r96, rfl, hr96, rfl⟩ := hBr96
                                  refine GW.eq (S2 := [.int r96, .ref (0 + 55 + 11 * bk8.toInt.toNat)]) rfl rfl rfl ?_
                                  obtain ⟨lns100, liv101, shw102, h103, h104, h105, h106, hz107, h108, hs99⟩ := a8_40 (kc := (0 + 55 + 11 * bk8.toInt.toNat)) (by omega) hI
                                  have bhz107 := z_b01 hz107
                                  refine GW.callV (n := 1) (As := [.int r96]) (rest := []) (b := (0 + 55 + 11 * bk8.toInt.toNat)) (k_X2_add l g pe ct49 (0 + 55 + 11 * bk8.toInt.toNat) r96 (by omega) hI) sub_pB_pCl rfl rfl ⟨by omega, pB_of (by omega)⟩ hs99 (q := (RX2, TX2, 5)) rfl mm_374 mm_375 mm_376 mm_60 mm_377 (by decide +kernel) ⟨Nat.le_of_ble_eq_true rfl, Nat.le_of_ble_eq_true rfl⟩ rfl (Nat.le_of_ble_eq_true rfl) dX8_book_106 (Nat.zero_le _) (Nat.zero_le _) rfl (fun ct98 rrr109 hBr109 hoff110 => ?_)
                                  obtain ⟨rfl, hI, hk111⟩ := hBr109
                                  refine GW.eq (S2 := []) rfl rfl rfl ?_
                                  have hs112 : ct98 0 = .inr (8, [.ref 1, .ref 2, .ref 3, .ref 5, .ref 6, .ref 9, .ref 10, .ref 17, .ref 21, .ref 34, .ref (99 + 3 * dr7), .int pe, .int bk8]) := (hoff110 _ (pB_no (by decide))).trans hs50
                                  have hs113 : ct98 3 = .inr (7, [.int len93, .ref 4]) := (hoff110 _ (pB_no (by decide))).trans hs92
                                  have hk0 : ct98 0 = ct 0 := hk111.trans hk0
                                  have hs114 : ct98 0 = .inr (8, [.ref 1, .ref 2, .ref 3, .ref 5, .ref 6, .ref 9, .ref 10, .ref 17, .ref 21, .ref 34, .ref (99 + 3 * dr7), .int pe, .int bk8]) := hk0.trans hs6
                                  obtain ⟨x115, ex115⟩ : ∃ y : Int32, y = v8_89 + 1 := ⟨_, rfl⟩
                                  have tx115 : x115.toInt = v8_89.toInt + 1 := by rw [ex115]; exact z_add rfl (by decide : (1 : Int32).toInt = 1) (by omega) (by omega)
                                  refine dv_iinc (v := x115) (lv' := [(8, .int x115), (7, .ref (0 + 55 + 11 * bk8.toInt.toNat)), (6, .int 1), (0, .ref 0), (1, .int n), (2, .int l0), (3, .int l1), (4, .int l2), (5, .int l3)]) dX8_book_109 (k := 0) rfl (by rw [ex115]; rfl) (by decide) rfl ?_
                                  refine dv_goto (tgt := 89) dX8_book_112 (by decide) ?_
                                  exact ih89 x115 ct98 (by omega) (by first | omega | decide | assumption) hk0 hI
                            exact loop89 ((8 - (0 : Int32).toInt : Int).toNat + 1) (0 : Int32) ct (by omega) (by first | omega | decide | assumption) hk0 hI
                        · skip
                          exact absurd c43 (by decide)
                      · skip
                        obtain ⟨rfl, h116⟩ := hr39
                        have h116 : ¬ (0 ≤ l3.toInt ∧ l3.toInt ≤ 4) := h116
                        exfalso
                        omega
                  · skip
                    obtain ⟨rfl, h117⟩ := hr33
                    have h117 : ¬ (0 ≤ l2.toInt ∧ l2.toInt ≤ 4) := h117
                    exfalso
                    omega
              · skip
                obtain ⟨rfl, h118⟩ := hr27
                have h118 : ¬ (0 ≤ l1.toInt ∧ l1.toInt ≤ 4) := h118
                exfalso
                omega
          · skip
            obtain ⟨rfl, h119⟩ := hr21
            have h119 : ¬ (0 ≤ l0.toInt ∧ l0.toInt ≤ 4) := h119
            exfalso
            omega
        · skip
          have c19 : ¬ (n.toInt ≤ 20) := fun q => c19 ((z_le rfl (by decide : (20 : Int32).toInt = 20)).mpr q)
          exfalso
          omega
  · skip
    obtain ⟨rfl, h120⟩ := hr13
    have h120 : ¬ ((1 : Int) ≤ n.toInt ∧ n.toInt ≤ (8 : Int)) := h120
    exfalso
    omega

set_option maxHeartbeats 4000000 in
set_option maxRecDepth 100000 in
theorem x_upper (l : Launch) (g : zG) (pe : Int32) (ct : Nat → va_E) (c0 : Int32) (nd : Int32) (up : Int32) (hI : Inv8 g idn pe ct) : DM l g pCl false yX8_upper cX8_upper 4 (some .boolean) ({ frames := 3, cells := 0, slots := 0, locals := 70 }) (fun (ct2 : Nat → va_E) (rr : Option Value) => ∃ (r : Int32), rr = some (.int r) ∧ ((r = 1 ∧ (0 ≤ c0.toInt ∧ c0.toInt ≤ 3) ∧ (0 ≤ nd.toInt ∧ nd.toInt ≤ 31) ∧ (up.toInt = -1 ∨ (16 ≤ up.toInt ∧ up.toInt ≤ 31 ∧ nd.toInt < up.toInt))) ∨ (r = 0 ∧ (¬ ((0 ≤ c0.toInt ∧ c0.toInt ≤ 3) ∧ (0 ≤ nd.toInt ∧ nd.toInt ≤ 31) ∧ (up.toInt = -1 ∨ (16 ≤ up.toInt ∧ up.toInt ≤ 31 ∧ nd.toInt < up.toInt)))))) ∧ Inv8 g idn pe ct2 ∧ (ct2 0 = ct 0) ∧ (ct2 3 = ct 3)) ct [.ref 0, .int c0, .int nd, .int up] := by
  refine DM.K (fun K hK => ?_)
  refine GW.met (own := RX8) (loc := [(0, .ref 0), (1, .int c0), (2, .int nd), (3, .int up)]) (by decide) rfl rfl (Nat.le_of_ble_eq_true rfl) ?_
  have hpe0 := hI.1
  have hc0 : ct 0 = ct 0 := rfl
  have hc3 : ct 3 = ct 3 := rfl
  have rg_c0 := z_rng c0
  have rg_nd := z_rng nd
  have rg_up := z_rng up
  refine dv_iload_n dX8_upper_0 rfl 1 rfl ?_
  refine GW.callS (n := 1) (As := [.int c0]) (rest := []) (k_X8_isColumn l g pe ct c0 hI) (fun _ h => Bool.noConfusion h) rfl rfl mm_547 mm_401 mm_52 mm_402 (by decide +kernel) ⟨Nat.le_of_ble_eq_true rfl, Nat.le_of_ble_eq_true rfl⟩ rfl (Nat.le_of_ble_eq_true rfl) dX8_upper_1 (Nat.zero_le _) (Nat.zero_le _) rfl (fun ct1 rrr2 hBr2 hoff3 => ?_)
  obtain ⟨r2, rfl, hr2, rfl⟩ := hBr2
  refine GW.eq (S2 := [.int r2]) rfl rfl rfl ?_
  rcases hr2 with hr2 | hr2
  · skip
    obtain ⟨rfl, h4, h5⟩ := hr2
    have h4 : 0 ≤ c0.toInt := h4
    have h5 : c0.toInt ≤ 3 := h5
    refine dv_if_eq (tgt := 17) dX8_upper_4 (by decide) (fun c6 => ?_) (fun c6 => ?_)
    · skip
      exact absurd c6 (by decide)
    · skip
      refine dv_iload_n dX8_upper_7 rfl 2 rfl ?_
      refine dv_iconst (v := 0) dX8_upper_8 (by decide) ?_
      refine dv_bipush (v := 31) dX8_upper_9 (by decide) ?_
      refine GW.callS (n := 3) (As := [.int nd, .int 0, .int 31]) (rest := []) (k_X8_within l g pe ct nd (0 : Int32) (31 : Int32) hI) (fun _ h => Bool.noConfusion h) rfl rfl mm_355 mm_356 mm_52 mm_357 (by decide +kernel) ⟨Nat.le_of_ble_eq_true rfl, Nat.le_of_ble_eq_true rfl⟩ rfl (Nat.le_of_ble_eq_true rfl) dX8_upper_11 (Nat.zero_le _) (Nat.zero_le _) rfl (fun ct7 rrr8 hBr8 hoff9 => ?_)
      obtain ⟨r8, rfl, hr8, rfl⟩ := hBr8
      refine GW.eq (S2 := [.int r8]) rfl rfl rfl ?_
      rcases hr8 with hr8 | hr8
      · skip
        obtain ⟨rfl, h10, h11⟩ := hr8
        have h10 : (0 : Int) ≤ nd.toInt := h10
        have h11 : nd.toInt ≤ (31 : Int) := h11
        refine dv_if_ne (tgt := 19) dX8_upper_14 (by decide) (fun c12 => ?_) (fun c12 => ?_)
        · skip
          refine dv_iload_n dX8_upper_19 rfl 3 rfl ?_
          refine dv_iconst (v := (-1)) dX8_upper_20 (by decide) ?_
          refine dv_icmp_eq (tgt := 42) dX8_upper_21 (by decide) (fun c13 => ?_) (fun c13 => ?_)
          · skip
            have c13 : up.toInt = (-1) := (z_eq rfl (by decide : ((-1) : Int32).toInt = (-1))).mp c13
            refine dv_aload_n dX8_upper_42 rfl 0 rfl ?_
            obtain ⟨bk16, dr15, h17, h18, h19, hs14⟩ := a8_0 hI
            refine dv_get (ci := 8) (v := .ref 1) (C := RX8) (T := TX8) (N := 13) ⟨by decide, rfl⟩ hs14 rfl inG8 0 (by decide) mm_303 rfl dX8_upper_43 ?_
            refine dv_iload_n dX8_upper_46 rfl 1 rfl ?_
            have hs20 := a8_1 hI
            refine dv_aldq 4 ⟨by decide, rfl⟩ hs20 rfl (z_in rfl (by omega) (by omega)) dX8_upper_47 (r := (0 + 35 + 5 * c0.toInt.toNat)) (zF1_r (x := c0) (by omega) (by omega)) ?_
            refine dv_iload_n dX8_upper_48 rfl 2 rfl ?_
            refine dv_iload_n dX8_upper_49 rfl 3 rfl ?_
            obtain ⟨we23, se24, h25, h26, hs22⟩ := a8_35 (kc := (0 + 35 + 5 * c0.toInt.toNat)) (by omega) hI
            refine GW.callV (n := 2) (As := [.int nd, .int up]) (rest := []) (b := (0 + 35 + 5 * c0.toInt.toNat)) (k_X3_hang l g pe ct (0 + 35 + 5 * c0.toInt.toNat) nd up (by omega) hI) sub_pK_pCl rfl rfl ⟨by omega, pK_of (by omega)⟩ hs22 (q := (RX3, TX3, 6)) rfl mm_548 mm_549 mm_550 mm_59 mm_551 (by decide +kernel) ⟨Nat.le_of_ble_eq_true rfl, Nat.le_of_ble_eq_true rfl⟩ rfl (Nat.le_of_ble_eq_true rfl) dX8_upper_50 (Nat.zero_le _) (Nat.zero_le _) rfl (fun ct21 rrr27 hBr27 hoff28 => ?_)
            obtain ⟨rfl, hI⟩ := hBr27
            refine GW.eq (S2 := []) rfl rfl rfl ?_
            have hs29 : ct21 0 = .inr (8, [.ref 1, .ref 2, .ref 3, .ref 5, .ref 6, .ref 9, .ref 10, .ref 17, .ref 21, .ref 34, .ref (99 + 3 * dr15), .int pe, .int bk16]) := (hoff28 _ (pK_no (by decide))).trans hs14
            have hs30 : ct21 1 = .inl (g.2 4, 4, .inr (.inr (.inr (.inr (zF1 idn 0))))) := (hoff28 _ (pK_no (by decide))).trans hs20
            have hc0 : ct21 0 = ct 0 := (hoff28 0 (pK_no (by decide))).trans hc0
            have hc3 : ct21 3 = ct 3 := (hoff28 3 (pK_no (by decide))).trans hc3
            refine dv_aload_n dX8_upper_53 rfl 0 rfl ?_
            refine dv_get (ci := 8) (v := .ref 17) (C := RX8) (T := TX8) (N := 13) ⟨by decide, rfl⟩ hs29 rfl inG8 7 (by decide) mm_310 rfl dX8_upper_54 ?_
            obtain ⟨spc33, tim34, h35, h36, hs32⟩ := a8_17 hI
            refine GW.callV (n := 0) (As := []) (rest := []) (b := 17) (k_X0_forget l g pe ct21  hI) sub_pQ_pCl rfl rfl ⟨by decide, rfl⟩ hs32 (q := (RX0, TX0, 5)) rfl mm_556 mm_557 mm_558 mm_56 mm_559 (by decide +kernel) ⟨Nat.le_of_ble_eq_true rfl, Nat.le_of_ble_eq_true rfl⟩ rfl (Nat.le_of_ble_eq_true rfl) dX8_upper_57 (Nat.zero_le _) (Nat.zero_le _) rfl (fun ct31 rrr37 hBr37 hoff38 => ?_)
            obtain ⟨rfl, hI⟩ := hBr37
            refine GW.eq (S2 := []) rfl rfl rfl ?_
            have hs39 : ct31 0 = .inr (8, [.ref 1, .ref 2, .ref 3, .ref 5, .ref 6, .ref 9, .ref 10, .ref 17, .ref 21, .ref 34, .ref (99 + 3 * dr15), .int pe, .int bk16]) := (hoff38 _ (pQ_no (by decide))).trans hs29
            have hs40 : ct31 1 = .inl (g.2 4, 4, .inr (.inr (.inr (.inr (zF1 idn 0))))) := (hoff38 _ (pQ_no (by decide))).trans hs30
            have hc0 : ct31 0 = ct 0 := (hoff38 0 (pQ_no (by decide))).trans hc0
            have hc3 : ct31 3 = ct 3 := (hoff38 3 (pQ_no (by decide))).trans hc3
            refine dv_iconst (v := 1) dX8_upper_60 (by decide) ?_
            have q41 : (1 : Int32).toInt = 1 := by decide
            exact dv_zret dX8_upper_61 rfl rfl (by first | exact Nat.zero_le _ | decide) (by first | exact Nat.zero_le _ | decide) (by subst hK; exact ⟨1, rfl, (by first | exact Or.inl ⟨rfl, by omega, by omega, by omega⟩ | exact Or.inr ⟨rfl, by omega⟩), hI, (by assumption), (by assumption)⟩)
          · skip
            have c13 : ¬ (up.toInt = (-1)) := fun q => c13 ((z_eq rfl (by decide : ((-1) : Int32).toInt = (-1))).mpr q)
            refine dv_iload_n dX8_upper_24 rfl 3 rfl ?_
            refine dv_bipush (v := 16) dX8_upper_25 (by decide) ?_
            refine dv_bipush (v := 31) dX8_upper_27 (by decide) ?_
            refine GW.callS (n := 3) (As := [.int up, .int 16, .int 31]) (rest := []) (k_X8_within l g pe ct up (16 : Int32) (31 : Int32) hI) (fun _ h => Bool.noConfusion h) rfl rfl mm_355 mm_356 mm_52 mm_357 (by decide +kernel) ⟨Nat.le_of_ble_eq_true rfl, Nat.le_of_ble_eq_true rfl⟩ rfl (Nat.le_of_ble_eq_true rfl) dX8_upper_29 (Nat.zero_le _) (Nat.zero_le _) rfl (fun ct42 rrr43 hBr43 hoff44 => ?_)
            obtain ⟨r43, rfl, hr43, rfl⟩ := hBr43
            refine GW.eq (S2 := [.int r43]) rfl rfl rfl ?_
            rcases hr43 with hr43 | hr43
            · skip
              obtain ⟨rfl, h45, h46⟩ := hr43
              have h45 : (16 : Int) ≤ up.toInt := h45
              have h46 : up.toInt ≤ (31 : Int) := h46
              refine dv_if_eq (tgt := 40) dX8_upper_32 (by decide) (fun c47 => ?_) (fun c47 => ?_)
              · skip
                exact absurd c47 (by decide)
              · skip
                refine dv_iload_n dX8_upper_35 rfl 3 rfl ?_
                refine dv_iload_n dX8_upper_36 rfl 2 rfl ?_
                refine dv_icmp_gt (tgt := 42) dX8_upper_37 (by decide) (fun c48 => ?_) (fun c48 => ?_)
                · skip
                  have c48 : nd.toInt < up.toInt := (z_lt rfl rfl).mp c48
                  refine dv_aload_n dX8_upper_42 rfl 0 rfl ?_
                  obtain ⟨bk51, dr50, h52, h53, h54, hs49⟩ := a8_0 hI
                  refine dv_get (ci := 8) (v := .ref 1) (C := RX8) (T := TX8) (N := 13) ⟨by decide, rfl⟩ hs49 rfl inG8 0 (by decide) mm_303 rfl dX8_upper_43 ?_
                  refine dv_iload_n dX8_upper_46 rfl 1 rfl ?_
                  have hs55 := a8_1 hI
                  refine dv_aldq 4 ⟨by decide, rfl⟩ hs55 rfl (z_in rfl (by omega) (by omega)) dX8_upper_47 (r := (0 + 35 + 5 * c0.toInt.toNat)) (zF1_r (x := c0) (by omega) (by omega)) ?_
                  refine dv_iload_n dX8_upper_48 rfl 2 rfl ?_
                  refine dv_iload_n dX8_upper_49 rfl 3 rfl ?_
                  obtain ⟨we58, se59, h60, h61, hs57⟩ := a8_35 (kc := (0 + 35 + 5 * c0.toInt.toNat)) (by omega) hI
                  refine GW.callV (n := 2) (As := [.int nd, .int up]) (rest := []) (b := (0 + 35 + 5 * c0.toInt.toNat)) (k_X3_hang l g pe ct (0 + 35 + 5 * c0.toInt.toNat) nd up (by omega) hI) sub_pK_pCl rfl rfl ⟨by omega, pK_of (by omega)⟩ hs57 (q := (RX3, TX3, 6)) rfl mm_548 mm_549 mm_550 mm_59 mm_551 (by decide +kernel) ⟨Nat.le_of_ble_eq_true rfl, Nat.le_of_ble_eq_true rfl⟩ rfl (Nat.le_of_ble_eq_true rfl) dX8_upper_50 (Nat.zero_le _) (Nat.zero_le _) rfl (fun ct56 rrr62 hBr62 hoff63 => ?_)
                  obtain ⟨rfl, hI⟩ := hBr62
                  refine GW.eq (S2 := []) rfl rfl rfl ?_
                  have hs64 : ct56 0 = .inr (8, [.ref 1, .ref 2, .ref 3, .ref 5, .ref 6, .ref 9, .ref 10, .ref 17, .ref 21, .ref 34, .ref (99 + 3 * dr50), .int pe, .int bk51]) := (hoff63 _ (pK_no (by decide))).trans hs49
                  have hs65 : ct56 1 = .inl (g.2 4, 4, .inr (.inr (.inr (.inr (zF1 idn 0))))) := (hoff63 _ (pK_no (by decide))).trans hs55
                  have hc0 : ct56 0 = ct 0 := (hoff63 0 (pK_no (by decide))).trans hc0
                  have hc3 : ct56 3 = ct 3 := (hoff63 3 (pK_no (by decide))).trans hc3
                  refine dv_aload_n dX8_upper_53 rfl 0 rfl ?_
                  refine dv_get (ci := 8) (v := .ref 17) (C := RX8) (T := TX8) (N := 13) ⟨by decide, rfl⟩ hs64 rfl inG8 7 (by decide) mm_310 rfl dX8_upper_54 ?_
                  obtain ⟨spc68, tim69, h70, h71, hs67⟩ := a8_17 hI
                  refine GW.callV (n := 0) (As := []) (rest := []) (b := 17) (k_X0_forget l g pe ct56  hI) sub_pQ_pCl rfl rfl ⟨by decide, rfl⟩ hs67 (q := (RX0, TX0, 5)) rfl mm_556 mm_557 mm_558 mm_56 mm_559 (by decide +kernel) ⟨Nat.le_of_ble_eq_true rfl, Nat.le_of_ble_eq_true rfl⟩ rfl (Nat.le_of_ble_eq_true rfl) dX8_upper_57 (Nat.zero_le _) (Nat.zero_le _) rfl (fun ct66 rrr72 hBr72 hoff73 => ?_)
                  obtain ⟨rfl, hI⟩ := hBr72
                  refine GW.eq (S2 := []) rfl rfl rfl ?_
                  have hs74 : ct66 0 = .inr (8, [.ref 1, .ref 2, .ref 3, .ref 5, .ref 6, .ref 9, .ref 10, .ref 17, .ref 21, .ref 34, .ref (99 + 3 * dr50), .int pe, .int bk51]) := (hoff73 _ (pQ_no (by decide))).trans hs64
                  have hs75 : ct66 1 = .inl (g.2 4, 4, .inr (.inr (.inr (.inr (zF1 idn 0))))) := (hoff73 _ (pQ_no (by decide))).trans hs65
                  have hc0 : ct66 0 = ct 0 := (hoff73 0 (pQ_no (by decide))).trans hc0
                  have hc3 : ct66 3 = ct 3 := (hoff73 3 (pQ_no (by decide))).trans hc3
                  refine dv_iconst (v := 1) dX8_upper_60 (by decide) ?_
                  have q76 : (1 : Int32).toInt = 1 := by decide
                  exact dv_zret dX8_upper_61 rfl rfl (by first | exact Nat.zero_le _ | decide) (by first | exact Nat.zero_le _ | decide) (by subst hK; exact ⟨1, rfl, (by first | exact Or.inl ⟨rfl, by omega, by omega, by omega⟩ | exact Or.inr ⟨rfl, by omega⟩), hI, (by assumption), (by assumption)⟩)
                · skip
                  have c48 : ¬ (nd.toInt < up.toInt) := fun q => c48 ((z_lt rfl rfl).mpr q)
                  refine dv_iconst (v := 0) dX8_upper_40 (by decide) ?_
                  have q77 : (0 : Int32).toInt = 0 := by decide
                  exact dv_zret dX8_upper_41 rfl rfl (by first | exact Nat.zero_le _ | decide) (by first | exact Nat.zero_le _ | decide) (by subst hK; exact ⟨0, rfl, (by first | exact Or.inl ⟨rfl, by omega, by omega, by omega⟩ | exact Or.inr ⟨rfl, by omega⟩), hI, (by assumption), (by assumption)⟩)
            · skip
              obtain ⟨rfl, h78⟩ := hr43
              have h78 : ¬ ((16 : Int) ≤ up.toInt ∧ up.toInt ≤ (31 : Int)) := h78
              refine dv_if_eq (tgt := 40) dX8_upper_32 (by decide) (fun c79 => ?_) (fun c79 => ?_)
              · skip
                refine dv_iconst (v := 0) dX8_upper_40 (by decide) ?_
                have q80 : (0 : Int32).toInt = 0 := by decide
                exact dv_zret dX8_upper_41 rfl rfl (by first | exact Nat.zero_le _ | decide) (by first | exact Nat.zero_le _ | decide) (by subst hK; exact ⟨0, rfl, (by first | exact Or.inl ⟨rfl, by omega, by omega, by omega⟩ | exact Or.inr ⟨rfl, by omega⟩), hI, (by assumption), (by assumption)⟩)
              · skip
                exact absurd c79 (by decide)
        · skip
          exact absurd c12 (by decide)
      · skip
        obtain ⟨rfl, h81⟩ := hr8
        have h81 : ¬ ((0 : Int) ≤ nd.toInt ∧ nd.toInt ≤ (31 : Int)) := h81
        refine dv_if_ne (tgt := 19) dX8_upper_14 (by decide) (fun c82 => ?_) (fun c82 => ?_)
        · skip
          exact absurd c82 (by decide)
        · skip
          refine dv_iconst (v := 0) dX8_upper_17 (by decide) ?_
          have q83 : (0 : Int32).toInt = 0 := by decide
          exact dv_zret dX8_upper_18 rfl rfl (by first | exact Nat.zero_le _ | decide) (by first | exact Nat.zero_le _ | decide) (by subst hK; exact ⟨0, rfl, (by first | exact Or.inl ⟨rfl, by omega, by omega, by omega⟩ | exact Or.inr ⟨rfl, by omega⟩), hI, (by assumption), (by assumption)⟩)
  · skip
    obtain ⟨rfl, h84⟩ := hr2
    have h84 : ¬ (0 ≤ c0.toInt ∧ c0.toInt ≤ 3) := h84
    refine dv_if_eq (tgt := 17) dX8_upper_4 (by decide) (fun c85 => ?_) (fun c85 => ?_)
    · skip
      refine dv_iconst (v := 0) dX8_upper_17 (by decide) ?_
      have q86 : (0 : Int32).toInt = 0 := by decide
      exact dv_zret dX8_upper_18 rfl rfl (by first | exact Nat.zero_le _ | decide) (by first | exact Nat.zero_le _ | decide) (by subst hK; exact ⟨0, rfl, (by first | exact Or.inl ⟨rfl, by omega, by omega, by omega⟩ | exact Or.inr ⟨rfl, by omega⟩), hI, (by assumption), (by assumption)⟩)
    · skip
      exact absurd c85 (by decide)

set_option maxHeartbeats 4000000 in
set_option maxRecDepth 100000 in
theorem x_spell (l : Launch) (g : zG) (pe : Int32) (ct : Nat → va_E) (p0 : Int32) (hI : Inv8 g idn pe ct) : DM l g pCl false yX8_spell cX8_spell 3 none ({ frames := 1, cells := 0, slots := 0, locals := 21 }) (fun (ct2 : Nat → va_E) (rr : Option Value) => rr = none ∧ Inv8 g idn pe ct2 ∧ (ct2 0 = ct 0) ∧ (ct2 3 = ct 3)) ct [.ref 0, .int p0] := by
  refine DM.K (fun K hK => ?_)
  refine GW.met (own := RX8) (loc := [(0, .ref 0), (1, .int p0)]) (by decide) rfl rfl (Nat.le_of_ble_eq_true rfl) ?_
  have hpe0 := hI.1
  have hc0 : ct 0 = ct 0 := rfl
  have hc3 : ct 3 = ct 3 := rfl
  have rg_p0 := z_rng p0
  refine dv_iconst (v := 0) dX8_spell_0 (by decide) ?_
  refine dv_istore_n (lv' := [(2, .int 0), (0, .ref 0), (1, .int p0)]) dX8_spell_1 rfl (by decide) rfl ?_
  have loop2 : ∀ (n2 : Nat) (v2_2 : Int32) (ct1 : Nat → va_E), ((4 - v2_2.toInt : Int).toNat < n2) → (0 ≤ v2_2.toInt ∧ v2_2.toInt ≤ 4) → (ct1 0 = ct 0) → (ct1 3 = ct 3) → (Inv8 g idn pe ct1) → GW l g pCl pCl false yX8_spell cX8_spell 3 none RX8 ({ frames := 1, cells := 0, slots := 0, locals := 21 }) K 0 0 ct1 2 [(2, .int v2_2), (0, .ref 0), (1, .int p0)] [] := by
    intro n2
    induction n2 with
    | zero =>
      intro v2_2 ct1 hn2 b2_2 hc0 hc3 hI
      exact absurd hn2 (Nat.not_lt_zero _)
    | succ n2 ih2 =>
      intro v2_2 ct1 hn2 b2_2 hc0 hc3 hI
      refine dv_iload_n dX8_spell_2 rfl 0 rfl ?_
      refine dv_iconst (v := 4) dX8_spell_3 (by decide) ?_
      refine dv_icmp_ge (tgt := 29) dX8_spell_4 (by decide) (fun c2 => ?_) (fun c2 => ?_)
      · skip
        have c2 : 4 ≤ v2_2.toInt := (z_le (by decide : (4 : Int32).toInt = 4) rfl).mp c2
        refine dv_aload_n dX8_spell_29 rfl 1 rfl ?_
        obtain ⟨bk5, dr4, h6, h7, h8, hs3⟩ := a8_0 hI
        refine dv_get (ci := 8) (v := .ref 34) (C := RX8) (T := TX8) (N := 13) ⟨by decide, rfl⟩ hs3 rfl inG8 9 (by decide) mm_312 rfl dX8_spell_30 ?_
        refine dv_iconst (v := 4) dX8_spell_33 (by decide) ?_
        refine dv_iload_n dX8_spell_34 rfl 2 rfl ?_
        obtain ⟨f10, hs9⟩ := a8_34 hI
        refine dv_iast 0 ⟨by decide, rfl⟩ hs9 rfl (z_in (by decide : (4 : Int32).toInt = 4) (by omega) (by omega)) dX8_spell_35 (en := .inl (g.2 0, 7, .inl (upd f10 (Int32.toNatClampNeg 4) p0))) rfl (fun ct11 ec12 => ?_)
        have hI : Inv8 g idn pe ct11 := by rw [ec12]; exact up8 hI (i8_34 ⟨_, rfl⟩)
        have hc0 : ct11 0 = ct 0 := by rw [ec12]; exact (va_up_ne _ _ (by omega)).trans hc0
        have hc3 : ct11 3 = ct 3 := by rw [ec12]; exact (va_up_ne _ _ (by omega)).trans hc3
        have hs13 : ct11 0 = .inr (8, [.ref 1, .ref 2, .ref 3, .ref 5, .ref 6, .ref 9, .ref 10, .ref 17, .ref 21, .ref 34, .ref (99 + 3 * dr4), .int pe, .int bk5]) := by rw [ec12, va_up_ne _ _ (by omega)]; exact hs3
        have hs14 : ct11 34 = .inl (g.2 0, 7, .inl (upd f10 (Int32.toNatClampNeg 4) p0)) := by rw [ec12]; exact va_up_self _ _ _
        refine dv_aload_n dX8_spell_36 rfl 1 rfl ?_
        refine dv_get (ci := 8) (v := .ref 34) (C := RX8) (T := TX8) (N := 13) ⟨by decide, rfl⟩ hs13 rfl inG8 9 (by decide) mm_312 rfl dX8_spell_37 ?_
        refine dv_iconst (v := 5) dX8_spell_40 (by decide) ?_
        refine dv_aload_n dX8_spell_41 rfl 1 rfl ?_
        refine dv_iload_n dX8_spell_42 rfl 2 rfl ?_
        refine GW.callV (n := 1) (As := [.int p0]) (rest := [.int 5, .ref 34]) (b := 0) (k_X8_isPerson l g pe ct11 p0 hI) (fun _ h => h) rfl rfl ⟨by decide, rfl⟩ hs13 (q := (RX8, TX8, 13)) rfl mm_370 mm_372 mm_1 mm_52 mm_373 (by decide +kernel) ⟨Nat.le_of_ble_eq_true rfl, Nat.le_of_ble_eq_true rfl⟩ rfl (Nat.le_of_ble_eq_true rfl) dX8_spell_43 (Nat.zero_le _) (Nat.zero_le _) rfl (fun ct15 rrr16 hBr16 hoff17 => ?_)
        obtain ⟨r16, rfl, hr16, rfl⟩ := hBr16
        refine GW.eq (S2 := [.int r16, .int 5, .ref 34]) rfl rfl rfl ?_
        rcases hr16 with hr16 | hr16
        · skip
          obtain ⟨rfl, h18, h19⟩ := hr16
          have h18 : 0 ≤ p0.toInt := h18
          have h19 : p0.toInt < pe.toInt := h19
          refine dv_if_eq (tgt := 58) dX8_spell_46 (by decide) (fun c20 => ?_) (fun c20 => ?_)
          · skip
            exact absurd c20 (by decide)
          · skip
            refine dv_aload_n dX8_spell_49 rfl 1 rfl ?_
            refine dv_get (ci := 8) (v := .ref 2) (C := RX8) (T := TX8) (N := 13) ⟨by decide, rfl⟩ hs13 rfl inG8 1 (by decide) mm_304 rfl dX8_spell_50 ?_
            refine dv_iload_n dX8_spell_53 rfl 2 rfl ?_
            obtain ⟨f22, hs21⟩ := a8_2 hI
            refine dv_iald 0 ⟨by decide, rfl⟩ hs21 rfl (z_in rfl (by omega) (by omega)) dX8_spell_54 ?_
            refine dv_topi (fun y23 ey23 => ?_)
            refine dv_goto (tgt := 59) dX8_spell_55 (by decide) ?_
            refine dv_iast 0 ⟨by decide, rfl⟩ hs14 rfl (z_in (by decide : (5 : Int32).toInt = 5) (by omega) (by omega)) dX8_spell_59 (en := .inl (g.2 0, 7, .inl (upd (upd f10 (Int32.toNatClampNeg 4) p0) (Int32.toNatClampNeg 5) y23))) rfl (fun ct24 ec25 => ?_)
            have hI : Inv8 g idn pe ct24 := by rw [ec25]; exact up8 hI (i8_34 ⟨_, rfl⟩)
            have hc0 : ct24 0 = ct 0 := by rw [ec25]; exact (va_up_ne _ _ (by omega)).trans hc0
            have hc3 : ct24 3 = ct 3 := by rw [ec25]; exact (va_up_ne _ _ (by omega)).trans hc3
            have hs26 : ct24 0 = .inr (8, [.ref 1, .ref 2, .ref 3, .ref 5, .ref 6, .ref 9, .ref 10, .ref 17, .ref 21, .ref 34, .ref (99 + 3 * dr4), .int pe, .int bk5]) := by rw [ec25, va_up_ne _ _ (by omega)]; exact hs13
            have hs27 : ct24 2 = .inl (g.2 0, 16, .inl f22) := by rw [ec25, va_up_ne _ _ (by omega)]; exact hs21
            have hs28 : ct24 34 = .inl (g.2 0, 7, .inl (upd (upd f10 (Int32.toNatClampNeg 4) p0) (Int32.toNatClampNeg 5) y23)) := by rw [ec25]; exact va_up_self _ _ _
            exact dv_vret dX8_spell_60 rfl (by first | exact Nat.zero_le _ | decide) (by first | exact Nat.zero_le _ | decide) (by subst hK; exact ⟨rfl, hI, (by assumption), (by assumption)⟩)
        · skip
          obtain ⟨rfl, h29⟩ := hr16
          have h29 : ¬ (0 ≤ p0.toInt ∧ p0.toInt < pe.toInt) := h29
          refine dv_if_eq (tgt := 58) dX8_spell_46 (by decide) (fun c30 => ?_) (fun c30 => ?_)
          · skip
            refine dv_iconst (v := 0) dX8_spell_58 (by decide) ?_
            refine dv_iast 0 ⟨by decide, rfl⟩ hs14 rfl (z_in (by decide : (5 : Int32).toInt = 5) (by omega) (by omega)) dX8_spell_59 (en := .inl (g.2 0, 7, .inl (upd (upd f10 (Int32.toNatClampNeg 4) p0) (Int32.toNatClampNeg 5) 0))) rfl (fun ct31 ec32 => ?_)
            have hI : Inv8 g idn pe ct31 := by rw [ec32]; exact up8 hI (i8_34 ⟨_, rfl⟩)
            have hc0 : ct31 0 = ct 0 := by rw [ec32]; exact (va_up_ne _ _ (by omega)).trans hc0
            have hc3 : ct31 3 = ct 3 := by rw [ec32]; exact (va_up_ne _ _ (by omega)).trans hc3
            have hs33 : ct31 0 = .inr (8, [.ref 1, .ref 2, .ref 3, .ref 5, .ref 6, .ref 9, .ref 10, .ref 17, .ref 21, .ref 34, .ref (99 + 3 * dr4), .int pe, .int bk5]) := by rw [ec32, va_up_ne _ _ (by omega)]; exact hs13
            have hs34 : ct31 34 = .inl (g.2 0, 7, .inl (upd (upd f10 (Int32.toNatClampNeg 4) p0) (Int32.toNatClampNeg 5) 0)) := by rw [ec32]; exact va_up_self _ _ _
            exact dv_vret dX8_spell_60 rfl (by first | exact Nat.zero_le _ | decide) (by first | exact Nat.zero_le _ | decide) (by subst hK; exact ⟨rfl, hI, (by assumption), (by assumption)⟩)
          · skip
            exact absurd c30 (by decide)
      · skip
        have c2 : ¬ (4 ≤ v2_2.toInt) := fun q => c2 ((z_le (by decide : (4 : Int32).toInt = 4) rfl).mpr q)
        refine dv_aload_n dX8_spell_7 rfl 1 rfl ?_
        obtain ⟨bk37, dr36, h38, h39, h40, hs35⟩ := a8_0 hI
        refine dv_get (ci := 8) (v := .ref 34) (C := RX8) (T := TX8) (N := 13) ⟨by decide, rfl⟩ hs35 rfl inG8 9 (by decide) mm_312 rfl dX8_spell_8 ?_
        refine dv_iload_n dX8_spell_11 rfl 0 rfl ?_
        refine dv_aload_n dX8_spell_12 rfl 1 rfl ?_
        refine dv_get (ci := 8) (v := .ref 1) (C := RX8) (T := TX8) (N := 13) ⟨by decide, rfl⟩ hs35 rfl inG8 0 (by decide) mm_303 rfl dX8_spell_13 ?_
        refine dv_iload_n dX8_spell_16 rfl 0 rfl ?_
        have hs41 := a8_1 hI
        refine dv_aldq 4 ⟨by decide, rfl⟩ hs41 rfl (z_in rfl (by omega) (by omega)) dX8_spell_17 (r := (0 + 35 + 5 * v2_2.toInt.toNat)) (zF1_r (x := v2_2) (by omega) (by omega)) ?_
        refine dv_iload_n dX8_spell_18 rfl 2 rfl ?_
        obtain ⟨we44, se45, h46, h47, hs43⟩ := a8_35 (kc := (0 + 35 + 5 * v2_2.toInt.toNat)) (by omega) hI
        refine GW.callV (n := 1) (As := [.int p0]) (rest := [.int v2_2, .ref 34]) (b := (0 + 35 + 5 * v2_2.toInt.toNat)) (k_X3_valueOf l g pe ct1 (0 + 35 + 5 * v2_2.toInt.toNat) p0 (by omega) hI) sub_pK_pCl rfl rfl ⟨by omega, pK_of (by omega)⟩ hs43 (q := (RX3, TX3, 6)) rfl mm_387 mm_388 mm_389 mm_59 mm_390 (by decide +kernel) ⟨Nat.le_of_ble_eq_true rfl, Nat.le_of_ble_eq_true rfl⟩ rfl (Nat.le_of_ble_eq_true rfl) dX8_spell_19 (Nat.zero_le _) (Nat.zero_le _) rfl (fun ct42 rrr48 hBr48 hoff49 => ?_)
        obtain ⟨r48, rfl, hr48, rfl⟩ := hBr48
        refine GW.eq (S2 := [.int r48, .int v2_2, .ref 34]) rfl rfl rfl ?_
        obtain ⟨f51, hs50⟩ := a8_34 hI
        refine dv_iast 0 ⟨by decide, rfl⟩ hs50 rfl (z_in rfl (by omega) (by omega)) dX8_spell_22 (en := .inl (g.2 0, 7, .inl (upd f51 (Int32.toNatClampNeg v2_2) r48))) rfl (fun ct52 ec53 => ?_)
        have hI : Inv8 g idn pe ct52 := by rw [ec53]; exact up8 hI (i8_34 ⟨_, rfl⟩)
        have hc0 : ct52 0 = ct 0 := by rw [ec53]; exact (va_up_ne _ _ (by omega)).trans hc0
        have hc3 : ct52 3 = ct 3 := by rw [ec53]; exact (va_up_ne _ _ (by omega)).trans hc3
        have hs54 : ct52 0 = .inr (8, [.ref 1, .ref 2, .ref 3, .ref 5, .ref 6, .ref 9, .ref 10, .ref 17, .ref 21, .ref 34, .ref (99 + 3 * dr36), .int pe, .int bk37]) := by rw [ec53, va_up_ne _ _ (by omega)]; exact hs35
        have hs55 : ct52 1 = .inl (g.2 4, 4, .inr (.inr (.inr (.inr (zF1 idn 0))))) := by rw [ec53, va_up_ne _ _ (by omega)]; exact hs41
        have hs56 : ct52 (0 + 35 + 5 * v2_2.toInt.toNat) = .inr (3, [.int we44, .ref ((0 + 35 + 5 * v2_2.toInt.toNat) + 1), .ref ((0 + 35 + 5 * v2_2.toInt.toNat) + 2), .ref ((0 + 35 + 5 * v2_2.toInt.toNat) + 3), .ref ((0 + 35 + 5 * v2_2.toInt.toNat) + 4), .int se45]) := by rw [ec53, va_up_ne _ _ (by omega)]; exact hs43
        have hs57 : ct52 34 = .inl (g.2 0, 7, .inl (upd f51 (Int32.toNatClampNeg v2_2) r48)) := by rw [ec53]; exact va_up_self _ _ _
        obtain ⟨x58, ex58⟩ : ∃ y : Int32, y = v2_2 + 1 := ⟨_, rfl⟩
        have tx58 : x58.toInt = v2_2.toInt + 1 := by rw [ex58]; exact z_add rfl (by decide : (1 : Int32).toInt = 1) (by omega) (by omega)
        refine dv_iinc (v := x58) (lv' := [(2, .int x58), (0, .ref 0), (1, .int p0)]) dX8_spell_23 (k := 0) rfl (by rw [ex58]; rfl) (by decide) rfl ?_
        refine dv_goto (tgt := 2) dX8_spell_26 (by decide) ?_
        exact ih2 x58 ct52 (by omega) (by first | omega | decide | assumption) (by first | omega | decide | assumption) (by first | omega | decide | assumption) hI
  exact loop2 ((4 - (0 : Int32).toInt : Int).toNat + 1) (0 : Int32) ct (by omega) (by first | omega | decide | assumption) (by first | omega | decide | assumption) (by first | omega | decide | assumption) hI

set_option maxHeartbeats 4000000 in
set_option maxRecDepth 100000 in
theorem x_judgeAll (l : Launch) (g : zG) (pe : Int32) (ct : Nat → va_E) (p0 : Int32) (hI : Inv8 g idn pe ct) : DM l g pCl false yX8_judgeAll cX8_judgeAll 3 none ({ frames := 27, cells := 0, slots := 0, locals := 672 }) (fun (ct2 : Nat → va_E) (rr : Option Value) => rr = none ∧ Inv8 g idn pe ct2 ∧ (ct2 0 = ct 0) ∧ (ct2 3 = ct 3)) ct [.ref 0, .int p0] := by
  refine DM.K (fun K hK => ?_)
  refine GW.met (own := RX8) (loc := [(0, .ref 0), (1, .int p0)]) (by decide) rfl rfl (Nat.le_of_ble_eq_true rfl) ?_
  have hpe0 := hI.1
  have hc0 : ct 0 = ct 0 := rfl
  have hc3 : ct 3 = ct 3 := rfl
  have rg_p0 := z_rng p0
  refine dv_aload_n dX8_judgeAll_0 rfl 0 rfl ?_
  refine dv_iload_n dX8_judgeAll_1 rfl 1 rfl ?_
  obtain ⟨bk4, dr3, h5, h6, h7, hs2⟩ := a8_0 hI
  refine GW.callV (n := 1) (As := [.int p0]) (rest := []) (b := 0) (x_spell l g pe ct p0 hI) (fun _ h => h) rfl rfl ⟨by decide, rfl⟩ hs2 (q := (RX8, TX8, 13)) rfl mm_576 mm_578 mm_19 mm_52 mm_579 (by decide +kernel) ⟨Nat.le_of_ble_eq_true rfl, Nat.le_of_ble_eq_true rfl⟩ rfl (Nat.le_of_ble_eq_true rfl) dX8_judgeAll_2 (Nat.zero_le _) (Nat.zero_le _) rfl (fun ct1 rrr8 hBr8 hoff9 => ?_)
  obtain ⟨rfl, hI, hk10, hk11⟩ := hBr8
  refine GW.eq (S2 := []) rfl rfl rfl ?_
  have hc0 : ct1 0 = ct 0 := hk10.trans hc0
  have hc3 : ct1 3 = ct 3 := hk11.trans hc3
  have hs12 : ct1 0 = .inr (8, [.ref 1, .ref 2, .ref 3, .ref 5, .ref 6, .ref 9, .ref 10, .ref 17, .ref 21, .ref 34, .ref (99 + 3 * dr3), .int pe, .int bk4]) := hk10.trans hs2
  refine dv_iconst (v := 0) dX8_judgeAll_5 (by decide) ?_
  refine dv_istore_n (lv' := [(2, .int 0), (0, .ref 0), (1, .int p0)]) dX8_judgeAll_6 rfl (by decide) rfl ?_
  have loop7 : ∀ (n7 : Nat) (v2_7 : Int32) (ct13 : Nat → va_E), ((8 - v2_7.toInt : Int).toNat < n7) → (0 ≤ v2_7.toInt ∧ v2_7.toInt ≤ 8) → (ct13 0 = ct 0) → (ct13 3 = ct 3) → (Inv8 g idn pe ct13) → GW l g pCl pCl false yX8_judgeAll cX8_judgeAll 3 none RX8 ({ frames := 27, cells := 0, slots := 0, locals := 672 }) K 0 0 ct13 7 [(2, .int v2_7), (0, .ref 0), (1, .int p0)] [] := by
    intro n7
    induction n7 with
    | zero =>
      intro v2_7 ct13 hn7 b2_7 hc0 hc3 hI
      exact absurd hn7 (Nat.not_lt_zero _)
    | succ n7 ih7 =>
      intro v2_7 ct13 hn7 b2_7 hc0 hc3 hI
      refine dv_iload_n dX8_judgeAll_7 rfl 0 rfl ?_
      refine dv_bipush (v := 8) dX8_judgeAll_8 (by decide) ?_
      refine dv_icmp_ge (tgt := 44) dX8_judgeAll_10 (by decide) (fun c14 => ?_) (fun c14 => ?_)
      · skip
        have c14 : 8 ≤ v2_7.toInt := (z_le (by decide : (8 : Int32).toInt = 8) rfl).mp c14
        exact dv_vret dX8_judgeAll_44 rfl (by first | exact Nat.zero_le _ | decide) (by first | exact Nat.zero_le _ | decide) (by subst hK; exact ⟨rfl, hI, (by assumption), (by assumption)⟩)
      · skip
        have c14 : ¬ (8 ≤ v2_7.toInt) := fun q => c14 ((z_le (by decide : (8 : Int32).toInt = 8) rfl).mpr q)
        refine dv_aload_n dX8_judgeAll_13 rfl 1 rfl ?_
        obtain ⟨bk17, dr16, h18, h19, h20, hs15⟩ := a8_0 hI
        refine dv_get (ci := 8) (v := .ref 9) (C := RX8) (T := TX8) (N := 13) ⟨by decide, rfl⟩ hs15 rfl inG8 5 (by decide) mm_308 rfl dX8_judgeAll_14 ?_
        refine dv_iload_n dX8_judgeAll_17 rfl 0 rfl ?_
        obtain ⟨f22, hgf23, hs21⟩ := a8_9 hI
        obtain ⟨j24, hj24, ej24⟩ := hgf23 _ (z_clt (x := v2_7) rfl (by omega) (by omega))
        refine dv_aldq 6 ⟨by decide, rfl⟩ hs21 rfl (z_in rfl (by omega) (by omega)) dX8_judgeAll_18 (r := (99 + 3 * j24)) ej24 ?_
        obtain ⟨tld26, ofb27, hol28, flt29, fla30, ofl31, len32, atx33, ref34, hz35, h36, h37, h38, h39, hz40, hs25⟩ := a8_44 (kc := (99 + 3 * j24)) (by omega) hI
        have bhz35 := z_b01 hz35
        have bhz40 := z_b01 hz40
        refine dv_get (ci := 4) (v := .int tld26) (C := RX4) (T := TX4) (N := 11) ⟨by omega, pCl_of (by omega)⟩ hs25 rfl inG4 0 (by decide) mm_215 rfl dX8_judgeAll_19 ?_
        refine dv_if_eq (tgt := 38) dX8_judgeAll_22 (by decide) (fun c41 => ?_) (fun c41 => ?_)
        · skip
          have c41 : tld26.toInt = 0 := (z_eq rfl (by decide : (0 : Int32).toInt = 0)).mp c41
          obtain ⟨x42, ex42⟩ : ∃ y : Int32, y = v2_7 + 1 := ⟨_, rfl⟩
          have tx42 : x42.toInt = v2_7.toInt + 1 := by rw [ex42]; exact z_add rfl (by decide : (1 : Int32).toInt = 1) (by omega) (by omega)
          refine dv_iinc (v := x42) (lv' := [(2, .int x42), (0, .ref 0), (1, .int p0)]) dX8_judgeAll_38 (k := 0) rfl (by rw [ex42]; rfl) (by decide) rfl ?_
          refine dv_goto (tgt := 7) dX8_judgeAll_41 (by decide) ?_
          exact ih7 x42 ct13 (by omega) (by first | omega | decide | assumption) (by first | omega | decide | assumption) (by first | omega | decide | assumption) hI
        · skip
          have c41 : ¬ (tld26.toInt = 0) := fun q => c41 ((z_eq rfl (by decide : (0 : Int32).toInt = 0)).mpr q)
          refine dv_aload_n dX8_judgeAll_25 rfl 1 rfl ?_
          refine dv_get (ci := 8) (v := .ref 9) (C := RX8) (T := TX8) (N := 13) ⟨by decide, rfl⟩ hs15 rfl inG8 5 (by decide) mm_308 rfl dX8_judgeAll_26 ?_
          refine dv_iload_n dX8_judgeAll_29 rfl 0 rfl ?_
          obtain ⟨j43, hj43, ej43⟩ := hgf23 _ (z_clt (x := v2_7) rfl (by omega) (by omega))
          refine dv_aldq 6 ⟨by decide, rfl⟩ hs21 rfl (z_in rfl (by omega) (by omega)) dX8_judgeAll_30 (r := (99 + 3 * j43)) ej43 ?_
          refine dv_aload_n dX8_judgeAll_31 rfl 1 rfl ?_
          refine dv_get (ci := 8) (v := .ref 34) (C := RX8) (T := TX8) (N := 13) ⟨by decide, rfl⟩ hs15 rfl inG8 9 (by decide) mm_312 rfl dX8_judgeAll_32 ?_
          obtain ⟨tld46, ofb47, hol48, flt49, fla50, ofl51, len52, atx53, ref54, hz55, h56, h57, h58, h59, hz60, hs45⟩ := a8_44 (kc := (99 + 3 * j43)) (by omega) hI
          have bhz55 := z_b01 hz55
          have bhz60 := z_b01 hz60
          refine GW.callV (n := 1) (As := [.ref 34]) (rest := []) (b := (99 + 3 * j43)) (k_X4_judge l g pe ct13 (99 + 3 * j43) (by omega) hI) sub_pG_pCl rfl rfl ⟨by omega, pG_of (by omega)⟩ hs45 (q := (RX4, TX4, 11)) rfl mm_580 mm_581 mm_582 mm_58 mm_583 (by decide +kernel) ⟨Nat.le_of_ble_eq_true rfl, Nat.le_of_ble_eq_true rfl⟩ rfl (Nat.le_of_ble_eq_true rfl) dX8_judgeAll_35 (Nat.zero_le _) (Nat.zero_le _) rfl (fun ct44 rrr61 hBr61 hoff62 => ?_)
          obtain ⟨rfl, hI⟩ := hBr61
          refine GW.eq (S2 := []) rfl rfl rfl ?_
          have hs63 : ct44 0 = .inr (8, [.ref 1, .ref 2, .ref 3, .ref 5, .ref 6, .ref 9, .ref 10, .ref 17, .ref 21, .ref 34, .ref (99 + 3 * dr16), .int pe, .int bk17]) := (hoff62 _ (pG_no (by decide))).trans hs15
          have hs64 : ct44 9 = .inl (g.2 6, 8, .inr (.inr (.inr (.inr f22)))) := (hoff62 _ (pG_no (by decide))).trans hs21
          have hc0 : ct44 0 = ct 0 := (hoff62 0 (pG_no (by decide))).trans hc0
          have hc3 : ct44 3 = ct 3 := (hoff62 3 (pG_no (by decide))).trans hc3
          obtain ⟨x65, ex65⟩ : ∃ y : Int32, y = v2_7 + 1 := ⟨_, rfl⟩
          have tx65 : x65.toInt = v2_7.toInt + 1 := by rw [ex65]; exact z_add rfl (by decide : (1 : Int32).toInt = 1) (by omega) (by omega)
          refine dv_iinc (v := x65) (lv' := [(2, .int x65), (0, .ref 0), (1, .int p0)]) dX8_judgeAll_38 (k := 0) rfl (by rw [ex65]; rfl) (by decide) rfl ?_
          refine dv_goto (tgt := 7) dX8_judgeAll_41 (by decide) ?_
          exact ih7 x65 ct44 (by omega) (by first | omega | decide | assumption) (by first | omega | decide | assumption) (by first | omega | decide | assumption) hI
  exact loop7 ((8 - (0 : Int32).toInt : Int).toNat + 1) (0 : Int32) ct1 (by omega) (by first | omega | decide | assumption) (by first | omega | decide | assumption) (by first | omega | decide | assumption) hI

set_option maxHeartbeats 4000000 in
set_option maxRecDepth 100000 in
theorem x_person (l : Launch) (g : zG) (pe : Int32) (ct : Nat → va_E) (a0 : Int32) (b0 : Int32) (c0 : Int32) (d0 : Int32) (hI : Inv8 g idn pe ct) : DM l g pCl false yX8_person cX8_person 6 (some .int) ({ frames := 28, cells := 0, slots := 0, locals := 694 }) (fun (ct2 : Nat → va_E) (rr : Option Value) => ∃ (r : Int32) (u : Int32), rr = some (.int r) ∧ ((r = (-1) ∧ (u = pe) ∧ (¬ ((0 ≤ a0.toInt ∧ a0.toInt ≤ 15) ∧ (0 ≤ b0.toInt ∧ b0.toInt ≤ 15) ∧ (0 ≤ c0.toInt ∧ c0.toInt ≤ 15) ∧ (0 ≤ d0.toInt ∧ d0.toInt ≤ 15) ∧ pe.toInt < 16))) ∨ (r = pe ∧ (u.toInt = pe.toInt + 1) ∧ ((0 ≤ a0.toInt ∧ a0.toInt ≤ 15) ∧ (0 ≤ b0.toInt ∧ b0.toInt ≤ 15) ∧ (0 ≤ c0.toInt ∧ c0.toInt ≤ 15) ∧ (0 ≤ d0.toInt ∧ d0.toInt ≤ 15) ∧ pe.toInt < 16))) ∧ Inv8 g idn u ct2 ∧ (zf 12 (ct2 0) = zf 12 (ct 0)) ∧ (ct2 3 = ct 3)) ct [.ref 0, .int a0, .int b0, .int c0, .int d0] := by
  refine DM.K (fun K hK => ?_)
  refine GW.met (own := RX8) (loc := [(0, .ref 0), (1, .int a0), (2, .int b0), (3, .int c0), (4, .int d0)]) (by decide) rfl rfl (Nat.le_of_ble_eq_true rfl) ?_
  have hpe0 := hI.1
  have hc3 : ct 3 = ct 3 := rfl
  have rg_a0 := z_rng a0
  have rg_b0 := z_rng b0
  have rg_c0 := z_rng c0
  have rg_d0 := z_rng d0
  obtain ⟨bk3, dr2, h4, h5, h6, hs1⟩ := a8_0 hI
  have hz0 : zf 12 (ct 0) = bk3 := by rw [hs1]; rfl
  refine dv_iload_n dX8_person_0 rfl 1 rfl ?_
  refine GW.callS (n := 1) (As := [.int a0]) (rest := []) (k_X8_isValue l g pe ct a0 hI) (fun _ h => Bool.noConfusion h) rfl rfl mm_564 mm_565 mm_52 mm_566 (by decide +kernel) ⟨Nat.le_of_ble_eq_true rfl, Nat.le_of_ble_eq_true rfl⟩ rfl (Nat.le_of_ble_eq_true rfl) dX8_person_1 (Nat.zero_le _) (Nat.zero_le _) rfl (fun ct7 rrr8 hBr8 hoff9 => ?_)
  obtain ⟨r8, rfl, hr8, rfl⟩ := hBr8
  refine GW.eq (S2 := [.int r8]) rfl rfl rfl ?_
  rcases hr8 with hr8 | hr8
  · skip
    obtain ⟨rfl, h10, h11⟩ := hr8
    have h10 : 0 ≤ a0.toInt := h10
    have h11 : a0.toInt ≤ 15 := h11
    refine dv_if_eq (tgt := 38) dX8_person_4 (by decide) (fun c12 => ?_) (fun c12 => ?_)
    · skip
      exact absurd c12 (by decide)
    · skip
      refine dv_iload_n dX8_person_7 rfl 2 rfl ?_
      refine GW.callS (n := 1) (As := [.int b0]) (rest := []) (k_X8_isValue l g pe ct b0 hI) (fun _ h => Bool.noConfusion h) rfl rfl mm_564 mm_565 mm_52 mm_566 (by decide +kernel) ⟨Nat.le_of_ble_eq_true rfl, Nat.le_of_ble_eq_true rfl⟩ rfl (Nat.le_of_ble_eq_true rfl) dX8_person_8 (Nat.zero_le _) (Nat.zero_le _) rfl (fun ct13 rrr14 hBr14 hoff15 => ?_)
      obtain ⟨r14, rfl, hr14, rfl⟩ := hBr14
      refine GW.eq (S2 := [.int r14]) rfl rfl rfl ?_
      rcases hr14 with hr14 | hr14
      · skip
        obtain ⟨rfl, h16, h17⟩ := hr14
        have h16 : 0 ≤ b0.toInt := h16
        have h17 : b0.toInt ≤ 15 := h17
        refine dv_if_eq (tgt := 38) dX8_person_11 (by decide) (fun c18 => ?_) (fun c18 => ?_)
        · skip
          exact absurd c18 (by decide)
        · skip
          refine dv_iload_n dX8_person_14 rfl 3 rfl ?_
          refine GW.callS (n := 1) (As := [.int c0]) (rest := []) (k_X8_isValue l g pe ct c0 hI) (fun _ h => Bool.noConfusion h) rfl rfl mm_564 mm_565 mm_52 mm_566 (by decide +kernel) ⟨Nat.le_of_ble_eq_true rfl, Nat.le_of_ble_eq_true rfl⟩ rfl (Nat.le_of_ble_eq_true rfl) dX8_person_15 (Nat.zero_le _) (Nat.zero_le _) rfl (fun ct19 rrr20 hBr20 hoff21 => ?_)
          obtain ⟨r20, rfl, hr20, rfl⟩ := hBr20
          refine GW.eq (S2 := [.int r20]) rfl rfl rfl ?_
          rcases hr20 with hr20 | hr20
          · skip
            obtain ⟨rfl, h22, h23⟩ := hr20
            have h22 : 0 ≤ c0.toInt := h22
            have h23 : c0.toInt ≤ 15 := h23
            refine dv_if_eq (tgt := 38) dX8_person_18 (by decide) (fun c24 => ?_) (fun c24 => ?_)
            · skip
              exact absurd c24 (by decide)
            · skip
              refine dv_iload dX8_person_21 4 rfl ?_
              refine GW.callS (n := 1) (As := [.int d0]) (rest := []) (k_X8_isValue l g pe ct d0 hI) (fun _ h => Bool.noConfusion h) rfl rfl mm_564 mm_565 mm_52 mm_566 (by decide +kernel) ⟨Nat.le_of_ble_eq_true rfl, Nat.le_of_ble_eq_true rfl⟩ rfl (Nat.le_of_ble_eq_true rfl) dX8_person_23 (Nat.zero_le _) (Nat.zero_le _) rfl (fun ct25 rrr26 hBr26 hoff27 => ?_)
              obtain ⟨r26, rfl, hr26, rfl⟩ := hBr26
              refine GW.eq (S2 := [.int r26]) rfl rfl rfl ?_
              rcases hr26 with hr26 | hr26
              · skip
                obtain ⟨rfl, h28, h29⟩ := hr26
                have h28 : 0 ≤ d0.toInt := h28
                have h29 : d0.toInt ≤ 15 := h29
                refine dv_if_eq (tgt := 38) dX8_person_26 (by decide) (fun c30 => ?_) (fun c30 => ?_)
                · skip
                  exact absurd c30 (by decide)
                · skip
                  refine dv_aload_n dX8_person_29 rfl 0 rfl ?_
                  refine dv_get (ci := 8) (v := .int pe) (C := RX8) (T := TX8) (N := 13) ⟨by decide, rfl⟩ hs1 rfl inG8 11 (by decide) mm_314 rfl dX8_person_30 ?_
                  refine dv_bipush (v := 16) dX8_person_33 (by decide) ?_
                  refine dv_icmp_lt (tgt := 40) dX8_person_35 (by decide) (fun c31 => ?_) (fun c31 => ?_)
                  · skip
                    have c31 : pe.toInt < 16 := (z_lt rfl (by decide : (16 : Int32).toInt = 16)).mp c31
                    refine dv_aload_n dX8_person_40 rfl 0 rfl ?_
                    refine dv_get (ci := 8) (v := .int pe) (C := RX8) (T := TX8) (N := 13) ⟨by decide, rfl⟩ hs1 rfl inG8 11 (by decide) mm_314 rfl dX8_person_41 ?_
                    refine dv_istore (lv' := [(5, .int pe), (0, .ref 0), (1, .int a0), (2, .int b0), (3, .int c0), (4, .int d0)]) dX8_person_44 (by decide) rfl ?_
                    refine dv_aload_n dX8_person_46 rfl 1 rfl ?_
                    refine dv_dup dX8_person_47 rfl ?_
                    refine dv_get (ci := 8) (v := .int pe) (C := RX8) (T := TX8) (N := 13) ⟨by decide, rfl⟩ hs1 rfl inG8 11 (by decide) mm_314 rfl dX8_person_48 ?_
                    refine dv_iconst (v := 1) dX8_person_51 (by decide) ?_
                    refine dv_iadd dX8_person_52 ?_
                    refine dv_topi (fun x32 ex32 => ?_)
                    have tx32 : x32.toInt = pe.toInt + 1 := by rw [ex32]; exact z_add rfl (by decide : (1 : Int32).toInt = 1) (by omega) (by omega)
                    refine dv_put (ci := 8) (v := .int x32) (ty := .int) (C := RX8) (T := TX8) (N := 13) ⟨by decide, rfl⟩ hs1 rfl inG8 tyX8 tyX8_ok nmX8 11 (by decide) mm_314 rfl (by decide +kernel) (fun _ => rfl) (fun _ => rfl) (Nat.le_of_ble_eq_true rfl) dX8_person_53 (en := .inr (8, [.ref 1, .ref 2, .ref 3, .ref 5, .ref 6, .ref 9, .ref 10, .ref 17, .ref 21, .ref 34, .ref (99 + 3 * dr2), .int x32, .int bk3])) rfl (fun ct33 ec34 => ?_)
                    have hI : Inv8 g idn x32 ct33 := by rw [ec34]; exact up8_pe hI (by omega) (i8_0 ⟨(bk3 : Int32), dr2, (by omega), (by first | omega | decide), (by first | omega | decide), rfl⟩)
                    have hc3 : ct33 3 = ct 3 := by rw [ec34]; exact (va_up_ne _ _ (by omega)).trans hc3
                    have hs35 : ct33 0 = .inr (8, [.ref 1, .ref 2, .ref 3, .ref 5, .ref 6, .ref 9, .ref 10, .ref 17, .ref 21, .ref 34, .ref (99 + 3 * dr2), .int x32, .int bk3]) := by rw [ec34]; exact va_up_self _ _ _
                    refine dv_aload_n dX8_person_56 rfl 1 rfl ?_
                    refine dv_get (ci := 8) (v := .ref 1) (C := RX8) (T := TX8) (N := 13) ⟨by decide, rfl⟩ hs35 rfl inG8 0 (by decide) mm_303 rfl dX8_person_57 ?_
                    refine dv_iconst (v := 0) dX8_person_60 (by decide) ?_
                    have hs36 := a8_1 hI
                    refine dv_aldq 4 ⟨by decide, rfl⟩ hs36 rfl (z_in (by decide : (0 : Int32).toInt = 0) (by omega) (by omega)) dX8_person_61 (r := 35) rfl ?_
                    refine dv_iload dX8_person_62 0 rfl ?_
                    refine dv_iload_n dX8_person_64 rfl 2 rfl ?_
                    obtain ⟨we39, se40, h41, h42, hs38⟩ := a8_35 (kc := 35) (by omega) hI
                    refine GW.callV (n := 2) (As := [.int pe, .int a0]) (rest := []) (b := 35) (k_X3_settle l g x32 ct33 35 pe a0 (by omega) hI) sub_pK_pCl rfl rfl ⟨by decide, rfl⟩ hs38 (q := (RX3, TX3, 6)) rfl mm_567 mm_568 mm_569 mm_59 mm_570 (by decide +kernel) ⟨Nat.le_of_ble_eq_true rfl, Nat.le_of_ble_eq_true rfl⟩ rfl (Nat.le_of_ble_eq_true rfl) dX8_person_65 (Nat.zero_le _) (Nat.zero_le _) rfl (fun ct37 rrr43 hBr43 hoff44 => ?_)
                    obtain ⟨rfl, hI⟩ := hBr43
                    refine GW.eq (S2 := []) rfl rfl rfl ?_
                    have hs45 : ct37 0 = .inr (8, [.ref 1, .ref 2, .ref 3, .ref 5, .ref 6, .ref 9, .ref 10, .ref 17, .ref 21, .ref 34, .ref (99 + 3 * dr2), .int x32, .int bk3]) := (hoff44 _ (pK_no (by decide))).trans hs35
                    have hs46 : ct37 1 = .inl (g.2 4, 4, .inr (.inr (.inr (.inr (zF1 idn 0))))) := (hoff44 _ (pK_no (by decide))).trans hs36
                    have hc3 : ct37 3 = ct 3 := (hoff44 3 (pK_no (by decide))).trans hc3
                    refine dv_aload_n dX8_person_68 rfl 1 rfl ?_
                    refine dv_get (ci := 8) (v := .ref 1) (C := RX8) (T := TX8) (N := 13) ⟨by decide, rfl⟩ hs45 rfl inG8 0 (by decide) mm_303 rfl dX8_person_69 ?_
                    refine dv_iconst (v := 1) dX8_person_72 (by decide) ?_
                    refine dv_aldq 4 ⟨by decide, rfl⟩ hs46 rfl (z_in (by decide : (1 : Int32).toInt = 1) (by omega) (by omega)) dX8_person_73 (r := 40) rfl ?_
                    refine dv_iload dX8_person_74 0 rfl ?_
                    refine dv_iload_n dX8_person_76 rfl 3 rfl ?_
                    obtain ⟨we49, se50, h51, h52, hs48⟩ := a8_35 (kc := 40) (by omega) hI
                    refine GW.callV (n := 2) (As := [.int pe, .int b0]) (rest := []) (b := 40) (k_X3_settle l g x32 ct37 40 pe b0 (by omega) hI) sub_pK_pCl rfl rfl ⟨by decide, rfl⟩ hs48 (q := (RX3, TX3, 6)) rfl mm_567 mm_568 mm_569 mm_59 mm_570 (by decide +kernel) ⟨Nat.le_of_ble_eq_true rfl, Nat.le_of_ble_eq_true rfl⟩ rfl (Nat.le_of_ble_eq_true rfl) dX8_person_77 (Nat.zero_le _) (Nat.zero_le _) rfl (fun ct47 rrr53 hBr53 hoff54 => ?_)
                    obtain ⟨rfl, hI⟩ := hBr53
                    refine GW.eq (S2 := []) rfl rfl rfl ?_
                    have hs55 : ct47 0 = .inr (8, [.ref 1, .ref 2, .ref 3, .ref 5, .ref 6, .ref 9, .ref 10, .ref 17, .ref 21, .ref 34, .ref (99 + 3 * dr2), .int x32, .int bk3]) := (hoff54 _ (pK_no (by decide))).trans hs45
                    have hs56 : ct47 1 = .inl (g.2 4, 4, .inr (.inr (.inr (.inr (zF1 idn 0))))) := (hoff54 _ (pK_no (by decide))).trans hs46
                    have hc3 : ct47 3 = ct 3 := (hoff54 3 (pK_no (by decide))).trans hc3
                    refine dv_aload_n dX8_person_80 rfl 1 rfl ?_
                    refine dv_get (ci := 8) (v := .ref 1) (C := RX8) (T := TX8) (N := 13) ⟨by decide, rfl⟩ hs55 rfl inG8 0 (by decide) mm_303 rfl dX8_person_81 ?_
                    refine dv_iconst (v := 2) dX8_person_84 (by decide) ?_
                    refine dv_aldq 4 ⟨by decide, rfl⟩ hs56 rfl (z_in (by decide : (2 : Int32).toInt = 2) (by omega) (by omega)) dX8_person_85 (r := 45) rfl ?_
                    refine dv_iload dX8_person_86 0 rfl ?_
                    refine dv_iload_n dX8_person_88 rfl 4 rfl ?_
                    obtain ⟨we59, se60, h61, h62, hs58⟩ := a8_35 (kc := 45) (by omega) hI
                    refine GW.callV (n := 2) (As := [.int pe, .int c0]) (rest := []) (b := 45) (k_X3_settle l g x32 ct47 45 pe c0 (by omega) hI) sub_pK_pCl rfl rfl ⟨by decide, rfl⟩ hs58 (q := (RX3, TX3, 6)) rfl mm_567 mm_568 mm_569 mm_59 mm_570 (by decide +kernel) ⟨Nat.le_of_ble_eq_true rfl, Nat.le_of_ble_eq_true rfl⟩ rfl (Nat.le_of_ble_eq_true rfl) dX8_person_89 (Nat.zero_le _) (Nat.zero_le _) rfl (fun ct57 rrr63 hBr63 hoff64 => ?_)
                    obtain ⟨rfl, hI⟩ := hBr63
                    refine GW.eq (S2 := []) rfl rfl rfl ?_
                    have hs65 : ct57 0 = .inr (8, [.ref 1, .ref 2, .ref 3, .ref 5, .ref 6, .ref 9, .ref 10, .ref 17, .ref 21, .ref 34, .ref (99 + 3 * dr2), .int x32, .int bk3]) := (hoff64 _ (pK_no (by decide))).trans hs55
                    have hs66 : ct57 1 = .inl (g.2 4, 4, .inr (.inr (.inr (.inr (zF1 idn 0))))) := (hoff64 _ (pK_no (by decide))).trans hs56
                    have hc3 : ct57 3 = ct 3 := (hoff64 3 (pK_no (by decide))).trans hc3
                    refine dv_aload_n dX8_person_92 rfl 1 rfl ?_
                    refine dv_get (ci := 8) (v := .ref 1) (C := RX8) (T := TX8) (N := 13) ⟨by decide, rfl⟩ hs65 rfl inG8 0 (by decide) mm_303 rfl dX8_person_93 ?_
                    refine dv_iconst (v := 3) dX8_person_96 (by decide) ?_
                    refine dv_aldq 4 ⟨by decide, rfl⟩ hs66 rfl (z_in (by decide : (3 : Int32).toInt = 3) (by omega) (by omega)) dX8_person_97 (r := 50) rfl ?_
                    refine dv_iload dX8_person_98 0 rfl ?_
                    refine dv_iload dX8_person_100 5 rfl ?_
                    obtain ⟨we69, se70, h71, h72, hs68⟩ := a8_35 (kc := 50) (by omega) hI
                    refine GW.callV (n := 2) (As := [.int pe, .int d0]) (rest := []) (b := 50) (k_X3_settle l g x32 ct57 50 pe d0 (by omega) hI) sub_pK_pCl rfl rfl ⟨by decide, rfl⟩ hs68 (q := (RX3, TX3, 6)) rfl mm_567 mm_568 mm_569 mm_59 mm_570 (by decide +kernel) ⟨Nat.le_of_ble_eq_true rfl, Nat.le_of_ble_eq_true rfl⟩ rfl (Nat.le_of_ble_eq_true rfl) dX8_person_102 (Nat.zero_le _) (Nat.zero_le _) rfl (fun ct67 rrr73 hBr73 hoff74 => ?_)
                    obtain ⟨rfl, hI⟩ := hBr73
                    refine GW.eq (S2 := []) rfl rfl rfl ?_
                    have hs75 : ct67 0 = .inr (8, [.ref 1, .ref 2, .ref 3, .ref 5, .ref 6, .ref 9, .ref 10, .ref 17, .ref 21, .ref 34, .ref (99 + 3 * dr2), .int x32, .int bk3]) := (hoff74 _ (pK_no (by decide))).trans hs65
                    have hs76 : ct67 1 = .inl (g.2 4, 4, .inr (.inr (.inr (.inr (zF1 idn 0))))) := (hoff74 _ (pK_no (by decide))).trans hs66
                    have hc3 : ct67 3 = ct 3 := (hoff74 3 (pK_no (by decide))).trans hc3
                    refine dv_aload_n dX8_person_105 rfl 1 rfl ?_
                    refine dv_iload dX8_person_106 0 rfl ?_
                    refine GW.callV (n := 1) (As := [.int pe]) (rest := []) (b := 0) (x_judgeAll l g x32 ct67 pe hI) (fun _ h => h) rfl rfl ⟨by decide, rfl⟩ hs75 (q := (RX8, TX8, 13)) rfl mm_572 mm_574 mm_18 mm_52 mm_575 (by decide +kernel) ⟨Nat.le_of_ble_eq_true rfl, Nat.le_of_ble_eq_true rfl⟩ rfl (Nat.le_of_ble_eq_true rfl) dX8_person_108 (Nat.zero_le _) (Nat.zero_le _) rfl (fun ct77 rrr78 hBr78 hoff79 => ?_)
                    obtain ⟨rfl, hI, hk80, hk81⟩ := hBr78
                    refine GW.eq (S2 := []) rfl rfl rfl ?_
                    have hc3 : ct77 3 = ct 3 := hk81.trans hc3
                    have hs82 : ct77 0 = .inr (8, [.ref 1, .ref 2, .ref 3, .ref 5, .ref 6, .ref 9, .ref 10, .ref 17, .ref 21, .ref 34, .ref (99 + 3 * dr2), .int x32, .int bk3]) := hk80.trans hs75
                    refine dv_iload dX8_person_111 0 rfl ?_
                    exact dv_iret dX8_person_113 rfl (by first | exact Nat.zero_le _ | decide) (by first | exact Nat.zero_le _ | decide) (by subst hK; exact ⟨pe, x32, rfl, (by first | exact Or.inl ⟨rfl, rfl, by omega⟩ | exact Or.inr ⟨rfl, by omega, by omega⟩), hI, (by first | exact rfl | (rw [hz0, hs82]; rfl)), (by assumption)⟩)
                  · skip
                    have c31 : ¬ (pe.toInt < 16) := fun q => c31 ((z_lt rfl (by decide : (16 : Int32).toInt = 16)).mpr q)
                    refine dv_iconst (v := (-1)) dX8_person_38 (by decide) ?_
                    have q83 : ((-1) : Int32).toInt = -1 := by decide
                    exact dv_iret dX8_person_39 rfl (by first | exact Nat.zero_le _ | decide) (by first | exact Nat.zero_le _ | decide) (by subst hK; exact ⟨(-1), pe, rfl, (by first | exact Or.inl ⟨rfl, rfl, by omega⟩ | exact Or.inr ⟨rfl, by omega, by omega⟩), hI, (by first | exact rfl | (rw [hz0, hs1]; rfl)), (by assumption)⟩)
              · skip
                obtain ⟨rfl, h84⟩ := hr26
                have h84 : ¬ (0 ≤ d0.toInt ∧ d0.toInt ≤ 15) := h84
                refine dv_if_eq (tgt := 38) dX8_person_26 (by decide) (fun c85 => ?_) (fun c85 => ?_)
                · skip
                  refine dv_iconst (v := (-1)) dX8_person_38 (by decide) ?_
                  have q86 : ((-1) : Int32).toInt = -1 := by decide
                  exact dv_iret dX8_person_39 rfl (by first | exact Nat.zero_le _ | decide) (by first | exact Nat.zero_le _ | decide) (by subst hK; exact ⟨(-1), pe, rfl, (by first | exact Or.inl ⟨rfl, rfl, by omega⟩ | exact Or.inr ⟨rfl, by omega, by omega⟩), hI, (by first | exact rfl | (rw [hz0, hs1]; rfl)), (by assumption)⟩)
                · skip
                  exact absurd c85 (by decide)
          · skip
            obtain ⟨rfl, h87⟩ := hr20
            have h87 : ¬ (0 ≤ c0.toInt ∧ c0.toInt ≤ 15) := h87
            refine dv_if_eq (tgt := 38) dX8_person_18 (by decide) (fun c88 => ?_) (fun c88 => ?_)
            · skip
              refine dv_iconst (v := (-1)) dX8_person_38 (by decide) ?_
              have q89 : ((-1) : Int32).toInt = -1 := by decide
              exact dv_iret dX8_person_39 rfl (by first | exact Nat.zero_le _ | decide) (by first | exact Nat.zero_le _ | decide) (by subst hK; exact ⟨(-1), pe, rfl, (by first | exact Or.inl ⟨rfl, rfl, by omega⟩ | exact Or.inr ⟨rfl, by omega, by omega⟩), hI, (by first | exact rfl | (rw [hz0, hs1]; rfl)), (by assumption)⟩)
            · skip
              exact absurd c88 (by decide)
      · skip
        obtain ⟨rfl, h90⟩ := hr14
        have h90 : ¬ (0 ≤ b0.toInt ∧ b0.toInt ≤ 15) := h90
        refine dv_if_eq (tgt := 38) dX8_person_11 (by decide) (fun c91 => ?_) (fun c91 => ?_)
        · skip
          refine dv_iconst (v := (-1)) dX8_person_38 (by decide) ?_
          have q92 : ((-1) : Int32).toInt = -1 := by decide
          exact dv_iret dX8_person_39 rfl (by first | exact Nat.zero_le _ | decide) (by first | exact Nat.zero_le _ | decide) (by subst hK; exact ⟨(-1), pe, rfl, (by first | exact Or.inl ⟨rfl, rfl, by omega⟩ | exact Or.inr ⟨rfl, by omega, by omega⟩), hI, (by first | exact rfl | (rw [hz0, hs1]; rfl)), (by assumption)⟩)
        · skip
          exact absurd c91 (by decide)
  · skip
    obtain ⟨rfl, h93⟩ := hr8
    have h93 : ¬ (0 ≤ a0.toInt ∧ a0.toInt ≤ 15) := h93
    refine dv_if_eq (tgt := 38) dX8_person_4 (by decide) (fun c94 => ?_) (fun c94 => ?_)
    · skip
      refine dv_iconst (v := (-1)) dX8_person_38 (by decide) ?_
      have q95 : ((-1) : Int32).toInt = -1 := by decide
      exact dv_iret dX8_person_39 rfl (by first | exact Nat.zero_le _ | decide) (by first | exact Nat.zero_le _ | decide) (by subst hK; exact ⟨(-1), pe, rfl, (by first | exact Or.inl ⟨rfl, rfl, by omega⟩ | exact Or.inr ⟨rfl, by omega, by omega⟩), hI, (by first | exact rfl | (rw [hz0, hs1]; rfl)), (by assumption)⟩)
    · skip
      exact absurd c94 (by decide)
