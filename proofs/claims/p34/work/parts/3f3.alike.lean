set_option maxHeartbeats 40000000 in
set_option maxRecDepth 100000 in
theorem c_alike (l : Launch) (g : zG) (sz : Nat) (pe : Int32) (ad1 ad2 : Nat → Nat) (ct1 ct2 : Nat → va_E) (hI1 : Inv8 g idn pe ct1) (hI2 : Inv8 g idn pe ct2) (hof : ∀ q, ¬ dIn pM q → ct2 q = ct1 q) : Met l yL_alike (zW yL_alike cL_alike 5 (some .boolean)) ({ frames := 6, cells := 0, slots := 0, locals := 141 }) (va_Pc [.ref (ad1 0), .ref (ad2 0)] (zA g ([] ++ (dW pAll ad1 ct1 ++ dW pAll ad2 ct2)) sz)) (va_Qi (fun (r : Int32) (_ : Unit) => r = 1) (fun _ t => ∃ (c1 c2 : Nat → va_E), zP g ([] ++ (dW pAll ad1 c1 ++ dW pAll ad2 c2)) t.heap ∧ va_D (va_A ([] ++ (dW pAll ad1 ct1 ++ dW pAll ad2 ct2)) sz) ([] ++ (dW pAll ad1 c1 ++ dW pAll ad2 c2)) ∧ Inv8 g idn pe c1 ∧ Inv8 g idn pe c2 ∧ (∀ q, ¬ dIn pM q → c1 q = ct1 q) ∧ (∀ q, ¬ dIn pM q → c2 q = ct1 q)) (va_A ([] ++ (dW pAll ad1 ct1 ++ dW pAll ad2 ct2)) sz)) 0 0 (va_A ([] ++ (dW pAll ad1 ct1 ++ dW pAll ad2 ct2)) sz) := by
  refine Met.ofW (cc := cL_alike) (maxL := 5) (ret := (some .boolean)) (by decide) rfl ?_
  intro p e s m args below meth c s₁ B hml hv
  obtain ⟨rfl, hsz, hP, hK, hD0, hN⟩ := hv
  have hx := B.exec
  have hb := B.bytes
  have hr := B.returns
  have hg := zW.law (atoms_spec (ws := (zW yL_alike cL_alike 5 (some .boolean))) B.pre)
  have hown : s.vm.findClass RL = some m.cls := findClass_of_methodNamed B.named
  have hlocks := B.notSynchronized
  subst hsz
  have hD := hD0.self (sz := s.heap.size)
  generalize hAe : va_A ([] ++ (dW pAll ad1 ct1 ++ dW pAll ad2 ct2)) s.heap.size = A at hD ⊢
  have hA : ∀ q : Nat, s.heap.size ≤ q → A q := fun q h => by rw [← hAe]; exact Or.inr h
  have hS : va_S A s.heap s.heap [] := va_S.rf
  have hl := lv_entry ([.ref (ad1 0), .ref (ad2 0)]) (n := 5) (Nat.le_of_ble_eq_true rfl)
  rw [lg_entry_eq]
  generalize (lg_sl ([.ref (ad1 0), .ref (ad2 0)]) ++ List.replicate (5 - (lg_sl ([.ref (ad1 0), .ref (ad2 0)])).length) Slot.unset).toArray = ls at hl ⊢
  have hl : lv_has ls 5 [(0, .ref (ad1 0)), (1, .ref (ad2 0))] := hl
  obtain ⟨H, hH⟩ : ∃ H, H = s.heap := ⟨_, rfl⟩
  obtain ⟨locs, hlo⟩ : ∃ x : List Loc, x = [] := ⟨_, rfl⟩
  rw [← hlo] at hS ⊢
  have hS : va_S A s.heap H locs := by rw [hH]; exact hS
  have hP : zP g ([] ++ (dW pAll ad1 ct1 ++ dW pAll ad2 ct2)) H := by rw [hH]; exact hP
  suffices hgo : W p l e (headSpec (zW yL_alike cL_alike 5 (some .boolean)) ({ frames := 6, cells := 0, slots := 0, locals := 141 })).room s m ([.ref (ad1 0), .ref (ad2 0)] : List Value).toArray below meth c H locs 0 0 (MQ below (va_Qi (fun (r : Int32) (_ : Unit) => r = 1) (fun _ t => ∃ (c1 c2 : Nat → va_E), zP g ([] ++ (dW pAll ad1 c1 ++ dW pAll ad2 c2)) t.heap ∧ va_D A ([] ++ (dW pAll ad1 c1 ++ dW pAll ad2 c2)) ∧ Inv8 g idn pe c1 ∧ Inv8 g idn pe c2 ∧ (∀ q, ¬ dIn pM q → c1 q = ct1 q) ∧ (∀ q, ¬ dIn pM q → c2 q = ct1 q)) A) ([.ref (ad1 0), .ref (ad2 0)] : List Value).toArray s 0 0 A) (F0 m 0 ls []) by
    rw [hH] at hgo
    exact hgo
  clear hH hlo
  refine lv_iconst (v := 1) hx hb dL_alike_0 (by decide) ?_
  refine lv_istore_n (lv' := [(2, .int 1), (0, .ref (ad1 0)), (1, .ref (ad2 0))]) hx hb dL_alike_1 rfl hl (by decide) rfl (fun ls hl => ?_)
  refine lv_iconst (v := 0) hx hb dL_alike_2 (by decide) ?_
  refine lv_istore_n (lv' := [(3, .int 0), (2, .int 1), (0, .ref (ad1 0)), (1, .ref (ad2 0))]) hx hb dL_alike_3 rfl hl (by decide) rfl (fun ls hl => ?_)
  have loop4 : ∀ (n4 : Nat) (v3_4 : Int32) (ct0_4 : Nat → va_E) (ct1_4 : Nat → va_E) (H : Heap) (locs : List Loc) (ls : Array Slot), ((6 - v3_4.toInt : Int).toNat < n4) → (0 ≤ v3_4.toInt ∧ v3_4.toInt ≤ 6) → (Inv8 g idn pe ct0_4) → (∀ q, ¬ dIn pM q → ct0_4 q = ct1 q) → (Inv8 g idn pe ct1_4) → (∀ q, ¬ dIn pM q → ct1_4 q = ct1 q) → zP g ([] ++ (dW pAll ad1 ct0_4 ++ dW pAll ad2 ct1_4)) H → va_D A ([] ++ (dW pAll ad1 ct0_4 ++ dW pAll ad2 ct1_4)) → va_S A s.heap H locs → lv_has ls 5 [(3, .int v3_4), (2, .int 1), (0, .ref (ad1 0)), (1, .ref (ad2 0))] → W p l e (headSpec (zW yL_alike cL_alike 5 (some .boolean)) ({ frames := 6, cells := 0, slots := 0, locals := 141 })).room s m ([.ref (ad1 0), .ref (ad2 0)] : List Value).toArray below meth c H locs 0 0 (MQ below (va_Qi (fun (r : Int32) (_ : Unit) => r = 1) (fun _ t => ∃ (c1 c2 : Nat → va_E), zP g ([] ++ (dW pAll ad1 c1 ++ dW pAll ad2 c2)) t.heap ∧ va_D A ([] ++ (dW pAll ad1 c1 ++ dW pAll ad2 c2)) ∧ Inv8 g idn pe c1 ∧ Inv8 g idn pe c2 ∧ (∀ q, ¬ dIn pM q → c1 q = ct1 q) ∧ (∀ q, ¬ dIn pM q → c2 q = ct1 q)) A) ([.ref (ad1 0), .ref (ad2 0)] : List Value).toArray s 0 0 A) (F0 m 4 ls []) := by
    intro n4
    induction n4 with
    | zero =>
      intro v3_4 ct0_4 ct1_4 H locs ls hn4 b3_4 hI0_4 hr0_4 hI1_4 hr1_4 hP hD hS hl
      exact absurd hn4 (Nat.not_lt_zero _)
    | succ n4 ih4 =>
      intro v3_4 ct0_4 ct1_4 H locs ls hn4 b3_4 hI0_4 hr0_4 hI1_4 hr1_4 hP hD hS hl
      refine lv_iload_n hx hb dL_alike_4 rfl (lv_at hl 0 rfl) ?_
      refine lv_bipush (v := 6) hx hb dL_alike_5 (by decide) ?_
      refine lv_icmp_ge (tgt := 39) hx hb dL_alike_7 (by decide) (fun c1 => ?_) (fun c1 => ?_)
      · skip
        have c1 : 6 ≤ v3_4.toInt := (z_le (by decide : (6 : Int32).toInt = 6) rfl).mp c1
        refine lv_iconst (v := 0) hx hb dL_alike_39 (by decide) ?_
        refine lv_istore_n (lv' := [(3, .int 0), (2, .int 1), (0, .ref (ad1 0)), (1, .ref (ad2 0))]) hx hb dL_alike_40 rfl hl (by decide) rfl (fun ls hl => ?_)
        have loop41 : ∀ (n41 : Nat) (v3_41 : Int32) (ct0_41 : Nat → va_E) (ct1_41 : Nat → va_E) (H : Heap) (locs : List Loc) (ls : Array Slot), ((2 - v3_41.toInt : Int).toNat < n41) → (0 ≤ v3_41.toInt ∧ v3_41.toInt ≤ 2) → (Inv8 g idn pe ct0_41) → (∀ q, ¬ dIn pM q → ct0_41 q = ct1 q) → (Inv8 g idn pe ct1_41) → (∀ q, ¬ dIn pM q → ct1_41 q = ct1 q) → zP g ([] ++ (dW pAll ad1 ct0_41 ++ dW pAll ad2 ct1_41)) H → va_D A ([] ++ (dW pAll ad1 ct0_41 ++ dW pAll ad2 ct1_41)) → va_S A s.heap H locs → lv_has ls 5 [(3, .int v3_41), (2, .int 1), (0, .ref (ad1 0)), (1, .ref (ad2 0))] → W p l e (headSpec (zW yL_alike cL_alike 5 (some .boolean)) ({ frames := 6, cells := 0, slots := 0, locals := 141 })).room s m ([.ref (ad1 0), .ref (ad2 0)] : List Value).toArray below meth c H locs 0 0 (MQ below (va_Qi (fun (r : Int32) (_ : Unit) => r = 1) (fun _ t => ∃ (c1 c2 : Nat → va_E), zP g ([] ++ (dW pAll ad1 c1 ++ dW pAll ad2 c2)) t.heap ∧ va_D A ([] ++ (dW pAll ad1 c1 ++ dW pAll ad2 c2)) ∧ Inv8 g idn pe c1 ∧ Inv8 g idn pe c2 ∧ (∀ q, ¬ dIn pM q → c1 q = ct1 q) ∧ (∀ q, ¬ dIn pM q → c2 q = ct1 q)) A) ([.ref (ad1 0), .ref (ad2 0)] : List Value).toArray s 0 0 A) (F0 m 41 ls []) := by
          intro n41
          induction n41 with
          | zero =>
            intro v3_41 ct0_41 ct1_41 H locs ls hn41 b3_41 hI0_41 hr0_41 hI1_41 hr1_41 hP hD hS hl
            exact absurd hn41 (Nat.not_lt_zero _)
          | succ n41 ih41 =>
            intro v3_41 ct0_41 ct1_41 H locs ls hn41 b3_41 hI0_41 hr0_41 hI1_41 hr1_41 hP hD hS hl
            refine lv_iload_n hx hb dL_alike_41 rfl (lv_at hl 0 rfl) ?_
            refine lv_iconst (v := 2) hx hb dL_alike_42 (by decide) ?_
            refine lv_icmp_ge (tgt := 228) hx hb dL_alike_43 (by decide) (fun c2 => ?_) (fun c2 => ?_)
            · skip
              have c2 : 2 ≤ v3_41.toInt := (z_le (by decide : (2 : Int32).toInt = 2) rfl).mp c2
              refine lv_iload_n hx hb dL_alike_228 rfl (lv_at hl 1 rfl) ?_
              exact W.zret (v := 1) hx hb hr rfl (fun t ht hW => ⟨⟨1, (), rfl, rfl, ct0_41, ct1_41, by rw [ht]; exact hP, hD, hI0_41, hI1_41, hr0_41, hr1_41⟩, hS.F ht⟩) hS.2.2 dL_alike_229
            · skip
              have c2 : ¬ (2 ≤ v3_41.toInt) := fun q => c2 ((z_le (by decide : (2 : Int32).toInt = 2) rfl).mpr q)
              refine lv_iload_n hx hb dL_alike_46 rfl (lv_at hl 1 rfl) ?_
              refine lv_if_eq (tgt := 136) hx hb dL_alike_47 (by decide) (fun c3 => ?_) (fun c3 => ?_)
              · skip
                exact absurd c3 (by decide)
              · skip
                refine lv_aload_n hx hb dL_alike_50 rfl (lv_at hl 2 rfl) ?_
                refine lv_iload_n hx hb dL_alike_51 rfl (lv_at hl 0 rfl) ?_
                refine lv_bipush (v := 7) hx hb dL_alike_52 (by decide) ?_
                obtain ⟨_, _, -, -, -, hs6⟩ := a8_0 hI0_41
                refine LCV (n := 2) (As := [.int v3_41, .int 7]) (rest := []) (E := []) (F := dW pAll ad2 ct1_41) (f_givings l g pe ct0_41 v3_41 (7 : Int32)  hI0_41 ) (fun _ h => h) rfl rfl hP hD hS hA hx hb hml hown hg hK hN ⟨by decide, rfl⟩ hs6 mm_473 mm_474 mm_475 mm_52 mm_476 (by decide +kernel) ⟨(Nat.le_of_ble_eq_true rfl), (Nat.le_of_ble_eq_true rfl)⟩ rfl (Nat.le_of_ble_eq_true rfl) dL_alike_54 (Nat.le_of_ble_eq_true rfl) (Nat.le_of_ble_eq_true rfl) hl.1 rfl (fun ct4 rrr5 hB hoff7 H locs hP hD hS => ?_)
                obtain ⟨r5, rfl, hr5, hI9, hcf8⟩ := hB
                have hrel10 : ∀ q, ¬ dIn pM q → ct4 q = ct1 q := fun q hq => (hcf8 q hq).trans (hr0_41 q hq)
                refine W.eq (g2 := F0 m 57 ls [.long r5]) rfl ?_
                obtain ⟨hr5, -⟩ := hr5
                have hv11 : r5 = qGiv l g pe ct1 v3_41 (7 : Int32) := hr5.trans (qGiv_o hr0_41 (gix_rg hI1))
                refine lv_aload_n hx hb dL_alike_57 rfl (lv_at hl 3 rfl) ?_
                refine lv_iload_n hx hb dL_alike_58 rfl (lv_at hl 0 rfl) ?_
                refine lv_bipush (v := 7) hx hb dL_alike_59 (by decide) ?_
                have hP := zP_perm pm_2 hP
                have hD := zD_perm pm_2 hD
                obtain ⟨_, _, -, -, -, hs14⟩ := a8_0 hI1_41
                refine LCV (n := 2) (As := [.int v3_41, .int 7]) (rest := [.long r5]) (E := ([] ++ dW pAll ad1 ct4)) (F := []) (f_givings l g pe ct1_41 v3_41 (7 : Int32)  hI1_41 ) (fun _ h => h) rfl rfl hP hD hS hA hx hb hml hown hg hK hN ⟨by decide, rfl⟩ hs14 mm_473 mm_474 mm_475 mm_52 mm_476 (by decide +kernel) ⟨(Nat.le_of_ble_eq_true rfl), (Nat.le_of_ble_eq_true rfl)⟩ rfl (Nat.le_of_ble_eq_true rfl) dL_alike_61 (Nat.le_of_ble_eq_true rfl) (Nat.le_of_ble_eq_true rfl) hl.1 rfl (fun ct12 rrr13 hB hoff15 H locs hP hD hS => ?_)
                have hP := zP_perm pm_2.symm hP
                have hD := zD_perm pm_2.symm hD
                obtain ⟨r13, rfl, hr13, hI17, hcf16⟩ := hB
                have hrel18 : ∀ q, ¬ dIn pM q → ct12 q = ct1 q := fun q hq => (hcf16 q hq).trans (hr1_41 q hq)
                refine W.eq (g2 := F0 m 64 ls [.long r13, .long r5]) rfl ?_
                obtain ⟨hr13, -⟩ := hr13
                have hv19 : r13 = qGiv l g pe ct1 v3_41 (7 : Int32) := hr13.trans (qGiv_o hr1_41 (gix_rg hI1))
                refine W.lcmp hx hb dL_alike_64 ?_
                refine lv_topi (fun x20 ex20 => ?_)
                obtain rfl : x20 = 0 := ex20.trans ((lg_cmp_eq _ _).mpr (hv11.trans hv19.symm))
                refine lv_if_ne (tgt := 136) hx hb dL_alike_65 (by decide) (fun c21 => ?_) (fun c21 => ?_)
                · skip
                  exact absurd c21 (by decide)
                · skip
                  refine lv_aload_n hx hb dL_alike_68 rfl (lv_at hl 2 rfl) ?_
                  refine lv_iload_n hx hb dL_alike_69 rfl (lv_at hl 0 rfl) ?_
                  refine lv_iconst (v := 3) hx hb dL_alike_70 (by decide) ?_
                  obtain ⟨_, _, -, -, -, hs24⟩ := a8_0 hI9
                  refine LCV (n := 2) (As := [.int v3_41, .int 3]) (rest := []) (E := []) (F := dW pAll ad2 ct12) (f_tooFew l g pe ct4 v3_41 (3 : Int32)  hI9 ) (fun _ h => h) rfl rfl hP hD hS hA hx hb hml hown hg hK hN ⟨by decide, rfl⟩ hs24 mm_505 mm_506 mm_507 mm_52 mm_508 (by decide +kernel) ⟨(Nat.le_of_ble_eq_true rfl), (Nat.le_of_ble_eq_true rfl)⟩ rfl (Nat.le_of_ble_eq_true rfl) dL_alike_71 (Nat.le_of_ble_eq_true rfl) (Nat.le_of_ble_eq_true rfl) hl.1 rfl (fun ct22 rrr23 hB hoff25 H locs hP hD hS => ?_)
                  obtain ⟨r23, rfl, hr23, hI27, hcf26⟩ := hB
                  have hrel28 : ∀ q, ¬ dIn pM q → ct22 q = ct1 q := fun q hq => (hcf26 q hq).trans (hrel10 q hq)
                  refine W.eq (g2 := F0 m 74 ls [.int r23]) rfl ?_
                  obtain ⟨hr23, -⟩ := hr23
                  have hv29 : r23 = qFew l g pe ct1 v3_41 (3 : Int32) := hr23.trans (qFew_o hrel10 (gix_rg hI1))
                  refine lv_aload_n hx hb dL_alike_74 rfl (lv_at hl 3 rfl) ?_
                  refine lv_iload_n hx hb dL_alike_75 rfl (lv_at hl 0 rfl) ?_
                  refine lv_iconst (v := 3) hx hb dL_alike_76 (by decide) ?_
                  have hP := zP_perm pm_2 hP
                  have hD := zD_perm pm_2 hD
                  obtain ⟨_, _, -, -, -, hs32⟩ := a8_0 hI17
                  refine LCV (n := 2) (As := [.int v3_41, .int 3]) (rest := [.int r23]) (E := ([] ++ dW pAll ad1 ct22)) (F := []) (f_tooFew l g pe ct12 v3_41 (3 : Int32)  hI17 ) (fun _ h => h) rfl rfl hP hD hS hA hx hb hml hown hg hK hN ⟨by decide, rfl⟩ hs32 mm_505 mm_506 mm_507 mm_52 mm_508 (by decide +kernel) ⟨(Nat.le_of_ble_eq_true rfl), (Nat.le_of_ble_eq_true rfl)⟩ rfl (Nat.le_of_ble_eq_true rfl) dL_alike_77 (Nat.le_of_ble_eq_true rfl) (Nat.le_of_ble_eq_true rfl) hl.1 rfl (fun ct30 rrr31 hB hoff33 H locs hP hD hS => ?_)
                  have hP := zP_perm pm_2.symm hP
                  have hD := zD_perm pm_2.symm hD
                  obtain ⟨r31, rfl, hr31, hI35, hcf34⟩ := hB
                  have hrel36 : ∀ q, ¬ dIn pM q → ct30 q = ct1 q := fun q hq => (hcf34 q hq).trans (hrel18 q hq)
                  refine W.eq (g2 := F0 m 80 ls [.int r31, .int r23]) rfl ?_
                  obtain ⟨hr31, -⟩ := hr31
                  have hv37 : r31 = qFew l g pe ct1 v3_41 (3 : Int32) := hr31.trans (qFew_o hrel18 (gix_rg hI1))
                  refine lv_icmp_ne (tgt := 136) hx hb dL_alike_80 (by decide) (fun c38 => ?_) (fun c38 => ?_)
                  · skip
                    have c38 : ¬ (r23.toInt = r31.toInt) := fun q => c38 ((z_eq rfl rfl).mpr q)
                    exact absurd (congrArg Int32.toInt (hv29.trans hv37.symm)) c38
                  · skip
                    have c38 : r23.toInt = r31.toInt := (z_eq rfl rfl).mp c38
                    refine lv_aload_n hx hb dL_alike_83 rfl (lv_at hl 2 rfl) ?_
                    refine lv_iload_n hx hb dL_alike_84 rfl (lv_at hl 0 rfl) ?_
                    refine lv_iconst (v := 0) hx hb dL_alike_85 (by decide) ?_
                    refine lv_bipush (v := 8) hx hb dL_alike_86 (by decide) ?_
                    obtain ⟨_, _, -, -, -, hs41⟩ := a8_0 hI27
                    refine LCV (n := 3) (As := [.int v3_41, .int 0, .int 8]) (rest := []) (E := []) (F := dW pAll ad2 ct30) (f_steps l g pe ct22 v3_41 (0 : Int32) (8 : Int32)  hI27 ) (fun _ h => h) rfl rfl hP hD hS hA hx hb hml hown hg hK hN ⟨by decide, rfl⟩ hs41 mm_509 mm_510 mm_511 mm_52 mm_512 (by decide +kernel) ⟨(Nat.le_of_ble_eq_true rfl), (Nat.le_of_ble_eq_true rfl)⟩ rfl (Nat.le_of_ble_eq_true rfl) dL_alike_88 (Nat.le_of_ble_eq_true rfl) (Nat.le_of_ble_eq_true rfl) hl.1 rfl (fun ct39 rrr40 hB hoff42 H locs hP hD hS => ?_)
                    obtain ⟨r40, rfl, hr40, hI44, hcf43⟩ := hB
                    have hrel45 : ∀ q, ¬ dIn pM q → ct39 q = ct1 q := fun q hq => (hcf43 q hq).trans (hrel28 q hq)
                    refine W.eq (g2 := F0 m 91 ls [.int r40]) rfl ?_
                    obtain ⟨hr40, -⟩ := hr40
                    have hv46 : r40 = qStp l g pe ct1 v3_41 (0 : Int32) (8 : Int32) := hr40.trans (qStp_o hrel28 (gix_rg hI1))
                    refine lv_aload_n hx hb dL_alike_91 rfl (lv_at hl 3 rfl) ?_
                    refine lv_iload_n hx hb dL_alike_92 rfl (lv_at hl 0 rfl) ?_
                    refine lv_iconst (v := 0) hx hb dL_alike_93 (by decide) ?_
                    refine lv_bipush (v := 8) hx hb dL_alike_94 (by decide) ?_
                    have hP := zP_perm pm_2 hP
                    have hD := zD_perm pm_2 hD
                    obtain ⟨_, _, -, -, -, hs49⟩ := a8_0 hI35
                    refine LCV (n := 3) (As := [.int v3_41, .int 0, .int 8]) (rest := [.int r40]) (E := ([] ++ dW pAll ad1 ct39)) (F := []) (f_steps l g pe ct30 v3_41 (0 : Int32) (8 : Int32)  hI35 ) (fun _ h => h) rfl rfl hP hD hS hA hx hb hml hown hg hK hN ⟨by decide, rfl⟩ hs49 mm_509 mm_510 mm_511 mm_52 mm_512 (by decide +kernel) ⟨(Nat.le_of_ble_eq_true rfl), (Nat.le_of_ble_eq_true rfl)⟩ rfl (Nat.le_of_ble_eq_true rfl) dL_alike_96 (Nat.le_of_ble_eq_true rfl) (Nat.le_of_ble_eq_true rfl) hl.1 rfl (fun ct47 rrr48 hB hoff50 H locs hP hD hS => ?_)
                    have hP := zP_perm pm_2.symm hP
                    have hD := zD_perm pm_2.symm hD
                    obtain ⟨r48, rfl, hr48, hI52, hcf51⟩ := hB
                    have hrel53 : ∀ q, ¬ dIn pM q → ct47 q = ct1 q := fun q hq => (hcf51 q hq).trans (hrel36 q hq)
                    refine W.eq (g2 := F0 m 99 ls [.int r48, .int r40]) rfl ?_
                    obtain ⟨hr48, -⟩ := hr48
                    have hv54 : r48 = qStp l g pe ct1 v3_41 (0 : Int32) (8 : Int32) := hr48.trans (qStp_o hrel36 (gix_rg hI1))
                    refine lv_icmp_ne (tgt := 136) hx hb dL_alike_99 (by decide) (fun c55 => ?_) (fun c55 => ?_)
                    · skip
                      have c55 : ¬ (r40.toInt = r48.toInt) := fun q => c55 ((z_eq rfl rfl).mpr q)
                      exact absurd (congrArg Int32.toInt (hv46.trans hv54.symm)) c55
                    · skip
                      have c55 : r40.toInt = r48.toInt := (z_eq rfl rfl).mp c55
                      refine lv_aload_n hx hb dL_alike_102 rfl (lv_at hl 2 rfl) ?_
                      refine lv_iload_n hx hb dL_alike_103 rfl (lv_at hl 0 rfl) ?_
                      refine lv_iconst (v := 2) hx hb dL_alike_104 (by decide) ?_
                      refine lv_iconst (v := 1) hx hb dL_alike_105 (by decide) ?_
                      obtain ⟨_, _, -, -, -, hs58⟩ := a8_0 hI44
                      refine LCV (n := 3) (As := [.int v3_41, .int 2, .int 1]) (rest := []) (E := []) (F := dW pAll ad2 ct47) (f_safe l g pe ct39 v3_41 (2 : Int32) (1 : Int32)  hI44 ) (fun _ h => h) rfl rfl hP hD hS hA hx hb hml hown hg hK hN ⟨by decide, rfl⟩ hs58 mm_526 mm_527 mm_528 mm_52 mm_529 (by decide +kernel) ⟨(Nat.le_of_ble_eq_true rfl), (Nat.le_of_ble_eq_true rfl)⟩ rfl (Nat.le_of_ble_eq_true rfl) dL_alike_106 (Nat.le_of_ble_eq_true rfl) (Nat.le_of_ble_eq_true rfl) hl.1 rfl (fun ct56 rrr57 hB hoff59 H locs hP hD hS => ?_)
                      obtain ⟨r57, rfl, hr57, hI61, hcf60⟩ := hB
                      have hrel62 : ∀ q, ¬ dIn pM q → ct56 q = ct1 q := fun q hq => (hcf60 q hq).trans (hrel45 q hq)
                      refine W.eq (g2 := F0 m 109 ls [.int r57]) rfl ?_
                      obtain ⟨hr57, -⟩ := hr57
                      have hv63 : r57 = qSafe l g pe ct1 v3_41 (2 : Int32) (1 : Int32) := hr57.trans (qSafe_o hrel45 (gix_rg hI1))
                      refine lv_aload_n hx hb dL_alike_109 rfl (lv_at hl 3 rfl) ?_
                      refine lv_iload_n hx hb dL_alike_110 rfl (lv_at hl 0 rfl) ?_
                      refine lv_iconst (v := 2) hx hb dL_alike_111 (by decide) ?_
                      refine lv_iconst (v := 1) hx hb dL_alike_112 (by decide) ?_
                      have hP := zP_perm pm_2 hP
                      have hD := zD_perm pm_2 hD
                      obtain ⟨_, _, -, -, -, hs66⟩ := a8_0 hI52
                      refine LCV (n := 3) (As := [.int v3_41, .int 2, .int 1]) (rest := [.int r57]) (E := ([] ++ dW pAll ad1 ct56)) (F := []) (f_safe l g pe ct47 v3_41 (2 : Int32) (1 : Int32)  hI52 ) (fun _ h => h) rfl rfl hP hD hS hA hx hb hml hown hg hK hN ⟨by decide, rfl⟩ hs66 mm_526 mm_527 mm_528 mm_52 mm_529 (by decide +kernel) ⟨(Nat.le_of_ble_eq_true rfl), (Nat.le_of_ble_eq_true rfl)⟩ rfl (Nat.le_of_ble_eq_true rfl) dL_alike_113 (Nat.le_of_ble_eq_true rfl) (Nat.le_of_ble_eq_true rfl) hl.1 rfl (fun ct64 rrr65 hB hoff67 H locs hP hD hS => ?_)
                      have hP := zP_perm pm_2.symm hP
                      have hD := zD_perm pm_2.symm hD
                      obtain ⟨r65, rfl, hr65, hI69, hcf68⟩ := hB
                      have hrel70 : ∀ q, ¬ dIn pM q → ct64 q = ct1 q := fun q hq => (hcf68 q hq).trans (hrel53 q hq)
                      refine W.eq (g2 := F0 m 116 ls [.int r65, .int r57]) rfl ?_
                      obtain ⟨hr65, -⟩ := hr65
                      have hv71 : r65 = qSafe l g pe ct1 v3_41 (2 : Int32) (1 : Int32) := hr65.trans (qSafe_o hrel53 (gix_rg hI1))
                      refine lv_icmp_ne (tgt := 136) hx hb dL_alike_116 (by decide) (fun c72 => ?_) (fun c72 => ?_)
                      · skip
                        have c72 : ¬ (r57.toInt = r65.toInt) := fun q => c72 ((z_eq rfl rfl).mpr q)
                        exact absurd (congrArg Int32.toInt (hv63.trans hv71.symm)) c72
                      · skip
                        have c72 : r57.toInt = r65.toInt := (z_eq rfl rfl).mp c72
                        refine lv_aload_n hx hb dL_alike_119 rfl (lv_at hl 2 rfl) ?_
                        refine lv_iload_n hx hb dL_alike_120 rfl (lv_at hl 0 rfl) ?_
                        obtain ⟨_, _, -, -, -, hs75⟩ := a8_0 hI61
                        refine LCV (n := 1) (As := [.int v3_41]) (rest := []) (E := []) (F := dW pAll ad2 ct64) (eLoss_s l g pe ct56 v3_41  hI61 ) sub_pCl_pAll rfl rfl hP hD hS hA hx hb hml hown hg hK hN ⟨by decide, rfl⟩ hs75 mm_887 mm_888 mm_889 mm_52 mm_890 (by decide +kernel) ⟨(Nat.le_of_ble_eq_true rfl), (Nat.le_of_ble_eq_true rfl)⟩ rfl (Nat.le_of_ble_eq_true rfl) dL_alike_121 (Nat.le_of_ble_eq_true rfl) (Nat.le_of_ble_eq_true rfl) hl.1 rfl (fun ct73 rrr74 hB hoff76 H locs hP hD hS => ?_)
                        obtain ⟨r74, rfl, hr74, rfl⟩ := hB
                        refine W.eq (g2 := F0 m 124 ls [.int r74]) rfl ?_
                        obtain ⟨hr74, -⟩ := hr74
                        have hv77 : r74 = eLoss l g pe ct1 v3_41 := hr74.trans (eLoss_o hrel62)
                        refine lv_aload_n hx hb dL_alike_124 rfl (lv_at hl 3 rfl) ?_
                        refine lv_iload_n hx hb dL_alike_125 rfl (lv_at hl 0 rfl) ?_
                        have hP := zP_perm pm_2 hP
                        have hD := zD_perm pm_2 hD
                        obtain ⟨_, _, -, -, -, hs80⟩ := a8_0 hI69
                        refine LCV (n := 1) (As := [.int v3_41]) (rest := [.int r74]) (E := ([] ++ dW pAll ad1 ct56)) (F := []) (eLoss_s l g pe ct64 v3_41  hI69 ) sub_pCl_pAll rfl rfl hP hD hS hA hx hb hml hown hg hK hN ⟨by decide, rfl⟩ hs80 mm_887 mm_888 mm_889 mm_52 mm_890 (by decide +kernel) ⟨(Nat.le_of_ble_eq_true rfl), (Nat.le_of_ble_eq_true rfl)⟩ rfl (Nat.le_of_ble_eq_true rfl) dL_alike_126 (Nat.le_of_ble_eq_true rfl) (Nat.le_of_ble_eq_true rfl) hl.1 rfl (fun ct78 rrr79 hB hoff81 H locs hP hD hS => ?_)
                        have hP := zP_perm pm_2.symm hP
                        have hD := zD_perm pm_2.symm hD
                        obtain ⟨r79, rfl, hr79, rfl⟩ := hB
                        refine W.eq (g2 := F0 m 129 ls [.int r79, .int r74]) rfl ?_
                        obtain ⟨hr79, -⟩ := hr79
                        have hv82 : r79 = eLoss l g pe ct1 v3_41 := hr79.trans (eLoss_o hrel70)
                        refine lv_icmp_ne (tgt := 136) hx hb dL_alike_129 (by decide) (fun c83 => ?_) (fun c83 => ?_)
                        · skip
                          have c83 : ¬ (r74.toInt = r79.toInt) := fun q => c83 ((z_eq rfl rfl).mpr q)
                          exact absurd (congrArg Int32.toInt (hv77.trans hv82.symm)) c83
                        · skip
                          have c83 : r74.toInt = r79.toInt := (z_eq rfl rfl).mp c83
                          refine lv_iconst (v := 1) hx hb dL_alike_132 (by decide) ?_
                          refine lv_goto (tgt := 137) hx hb dL_alike_133 (by decide) ?_
                          refine lv_istore_n (lv' := [(2, .int 1), (3, .int v3_41), (0, .ref (ad1 0)), (1, .ref (ad2 0))]) hx hb dL_alike_137 rfl hl (by decide) rfl (fun ls hl => ?_)
                          refine lv_iconst (v := 0) hx hb dL_alike_138 (by decide) ?_
                          refine lv_istore (lv' := [(4, .int 0), (2, .int 1), (3, .int v3_41), (0, .ref (ad1 0)), (1, .ref (ad2 0))]) hx hb dL_alike_139 hl (by decide) rfl (fun ls hl => ?_)
                          have loop141 : ∀ (n141 : Nat) (v4_141 : Int32) (ct0_141 : Nat → va_E) (ct1_141 : Nat → va_E) (H : Heap) (locs : List Loc) (ls : Array Slot), ((5 - v4_141.toInt : Int).toNat < n141) → (0 ≤ v4_141.toInt ∧ v4_141.toInt ≤ 5) → (Inv8 g idn pe ct0_141) → (∀ q, ¬ dIn pM q → ct0_141 q = ct1 q) → (Inv8 g idn pe ct1_141) → (∀ q, ¬ dIn pM q → ct1_141 q = ct1 q) → zP g ([] ++ (dW pAll ad1 ct0_141 ++ dW pAll ad2 ct1_141)) H → va_D A ([] ++ (dW pAll ad1 ct0_141 ++ dW pAll ad2 ct1_141)) → va_S A s.heap H locs → lv_has ls 5 [(4, .int v4_141), (2, .int 1), (3, .int v3_41), (0, .ref (ad1 0)), (1, .ref (ad2 0))] → W p l e (headSpec (zW yL_alike cL_alike 5 (some .boolean)) ({ frames := 6, cells := 0, slots := 0, locals := 141 })).room s m ([.ref (ad1 0), .ref (ad2 0)] : List Value).toArray below meth c H locs 0 0 (MQ below (va_Qi (fun (r : Int32) (_ : Unit) => r = 1) (fun _ t => ∃ (c1 c2 : Nat → va_E), zP g ([] ++ (dW pAll ad1 c1 ++ dW pAll ad2 c2)) t.heap ∧ va_D A ([] ++ (dW pAll ad1 c1 ++ dW pAll ad2 c2)) ∧ Inv8 g idn pe c1 ∧ Inv8 g idn pe c2 ∧ (∀ q, ¬ dIn pM q → c1 q = ct1 q) ∧ (∀ q, ¬ dIn pM q → c2 q = ct1 q)) A) ([.ref (ad1 0), .ref (ad2 0)] : List Value).toArray s 0 0 A) (F0 m 141 ls []) := by
                            intro n141
                            induction n141 with
                            | zero =>
                              intro v4_141 ct0_141 ct1_141 H locs ls hn141 b4_141 hI0_141 hr0_141 hI1_141 hr1_141 hP hD hS hl
                              exact absurd hn141 (Nat.not_lt_zero _)
                            | succ n141 ih141 =>
                              intro v4_141 ct0_141 ct1_141 H locs ls hn141 b4_141 hI0_141 hr0_141 hI1_141 hr1_141 hP hD hS hl
                              refine lv_iload hx hb dL_alike_141 (lv_at hl 0 rfl) ?_
                              refine lv_iconst (v := 5) hx hb dL_alike_143 (by decide) ?_
                              refine lv_icmp_ge (tgt := 222) hx hb dL_alike_144 (by decide) (fun c84 => ?_) (fun c84 => ?_)
                              · skip
                                have c84 : 5 ≤ v4_141.toInt := (z_le (by decide : (5 : Int32).toInt = 5) rfl).mp c84
                                obtain ⟨x85, ex85⟩ : ∃ y : Int32, y = v3_41 + 1 := ⟨_, rfl⟩
                                have tx85 : x85.toInt = v3_41.toInt + 1 := by rw [ex85]; exact z_add rfl (by decide : (1 : Int32).toInt = 1) (by omega) (by omega)
                                refine lv_iinc (v := x85) (lv' := [(3, .int x85), (4, .int v4_141), (2, .int 1), (0, .ref (ad1 0)), (1, .ref (ad2 0))]) hx hb dL_alike_222 hl (k := 2) rfl (by rw [ex85]; rfl) (by decide) rfl (fun ls hl => ?_)
                                refine lv_goto (tgt := 41) hx hb dL_alike_225 (by decide) ?_
                                exact ih41 x85 ct0_141 ct1_141 _ _ ls (by omega) (by first | omega | decide) hI0_141 hr0_141 hI1_141 hr1_141 hP hD hS (lv_sub hl [0, 2, 3, 4] rfl)
                              · skip
                                have c84 : ¬ (5 ≤ v4_141.toInt) := fun q => c84 ((z_le (by decide : (5 : Int32).toInt = 5) rfl).mpr q)
                                refine lv_iload_n hx hb dL_alike_147 rfl (lv_at hl 1 rfl) ?_
                                refine lv_if_eq (tgt := 214) hx hb dL_alike_148 (by decide) (fun c86 => ?_) (fun c86 => ?_)
                                · skip
                                  exact absurd c86 (by decide)
                                · skip
                                  refine lv_aload_n hx hb dL_alike_151 rfl (lv_at hl 3 rfl) ?_
                                  refine lv_iload_n hx hb dL_alike_152 rfl (lv_at hl 2 rfl) ?_
                                  refine lv_iload hx hb dL_alike_153 (lv_at hl 0 rfl) ?_
                                  refine lv_bipush (v := 15) hx hb dL_alike_155 (by decide) ?_
                                  obtain ⟨_, _, -, -, -, hs89⟩ := a8_0 hI0_141
                                  refine LCV (n := 3) (As := [.int v3_41, .int v4_141, .int 15]) (rest := []) (E := []) (F := dW pAll ad2 ct1_141) (f_fits l g pe ct0_141 v3_41 v4_141 (15 : Int32)  hI0_141 ) (fun _ h => h) rfl rfl hP hD hS hA hx hb hml hown hg hK hN ⟨by decide, rfl⟩ hs89 mm_407 mm_408 mm_409 mm_52 mm_410 (by decide +kernel) ⟨(Nat.le_of_ble_eq_true rfl), (Nat.le_of_ble_eq_true rfl)⟩ rfl (Nat.le_of_ble_eq_true rfl) dL_alike_157 (Nat.le_of_ble_eq_true rfl) (Nat.le_of_ble_eq_true rfl) hl.1 rfl (fun ct87 rrr88 hB hoff90 H locs hP hD hS => ?_)
                                  obtain ⟨r88, rfl, hr88, hI92, hcf91⟩ := hB
                                  have hrel93 : ∀ q, ¬ dIn pM q → ct87 q = ct1 q := fun q hq => (hcf91 q hq).trans (hr0_141 q hq)
                                  refine W.eq (g2 := F0 m 160 ls [.int r88]) rfl ?_
                                  obtain ⟨hr88, -⟩ := hr88
                                  have hv94 : r88 = qFits l g pe ct1 v3_41 v4_141 (15 : Int32) := hr88.trans (qFits_o hr0_141 (gix_rg hI1))
                                  refine lv_aload_n hx hb dL_alike_160 rfl (lv_at hl 4 rfl) ?_
                                  refine lv_iload_n hx hb dL_alike_161 rfl (lv_at hl 2 rfl) ?_
                                  refine lv_iload hx hb dL_alike_162 (lv_at hl 0 rfl) ?_
                                  refine lv_bipush (v := 15) hx hb dL_alike_164 (by decide) ?_
                                  have hP := zP_perm pm_2 hP
                                  have hD := zD_perm pm_2 hD
                                  obtain ⟨_, _, -, -, -, hs97⟩ := a8_0 hI1_141
                                  refine LCV (n := 3) (As := [.int v3_41, .int v4_141, .int 15]) (rest := [.int r88]) (E := ([] ++ dW pAll ad1 ct87)) (F := []) (f_fits l g pe ct1_141 v3_41 v4_141 (15 : Int32)  hI1_141 ) (fun _ h => h) rfl rfl hP hD hS hA hx hb hml hown hg hK hN ⟨by decide, rfl⟩ hs97 mm_407 mm_408 mm_409 mm_52 mm_410 (by decide +kernel) ⟨(Nat.le_of_ble_eq_true rfl), (Nat.le_of_ble_eq_true rfl)⟩ rfl (Nat.le_of_ble_eq_true rfl) dL_alike_166 (Nat.le_of_ble_eq_true rfl) (Nat.le_of_ble_eq_true rfl) hl.1 rfl (fun ct95 rrr96 hB hoff98 H locs hP hD hS => ?_)
                                  have hP := zP_perm pm_2.symm hP
                                  have hD := zD_perm pm_2.symm hD
                                  obtain ⟨r96, rfl, hr96, hI100, hcf99⟩ := hB
                                  have hrel101 : ∀ q, ¬ dIn pM q → ct95 q = ct1 q := fun q hq => (hcf99 q hq).trans (hr1_141 q hq)
                                  refine W.eq (g2 := F0 m 169 ls [.int r96, .int r88]) rfl ?_
                                  obtain ⟨hr96, -⟩ := hr96
                                  have hv102 : r96 = qFits l g pe ct1 v3_41 v4_141 (15 : Int32) := hr96.trans (qFits_o hr1_141 (gix_rg hI1))
                                  refine lv_icmp_ne (tgt := 214) hx hb dL_alike_169 (by decide) (fun c103 => ?_) (fun c103 => ?_)
                                  · skip
                                    have c103 : ¬ (r88.toInt = r96.toInt) := fun q => c103 ((z_eq rfl rfl).mpr q)
                                    exact absurd (congrArg Int32.toInt (hv94.trans hv102.symm)) c103
                                  · skip
                                    have c103 : r88.toInt = r96.toInt := (z_eq rfl rfl).mp c103
                                    refine lv_aload_n hx hb dL_alike_172 rfl (lv_at hl 3 rfl) ?_
                                    refine lv_iload_n hx hb dL_alike_173 rfl (lv_at hl 2 rfl) ?_
                                    refine lv_iload hx hb dL_alike_174 (lv_at hl 0 rfl) ?_
                                    refine lv_iconst (v := 1) hx hb dL_alike_176 (by decide) ?_
                                    obtain ⟨_, _, -, -, -, hs106⟩ := a8_0 hI92
                                    refine LCV (n := 3) (As := [.int v3_41, .int v4_141, .int 1]) (rest := []) (E := []) (F := dW pAll ad2 ct95) (eLine_s l g pe ct87 v3_41 v4_141 (1 : Int32)  hI92 ) sub_pCl_pAll rfl rfl hP hD hS hA hx hb hml hown hg hK hN ⟨by decide, rfl⟩ hs106 mm_872 mm_873 mm_874 mm_52 mm_875 (by decide +kernel) ⟨(Nat.le_of_ble_eq_true rfl), (Nat.le_of_ble_eq_true rfl)⟩ rfl (Nat.le_of_ble_eq_true rfl) dL_alike_177 (Nat.le_of_ble_eq_true rfl) (Nat.le_of_ble_eq_true rfl) hl.1 rfl (fun ct104 rrr105 hB hoff107 H locs hP hD hS => ?_)
                                    obtain ⟨r105, rfl, hr105, rfl⟩ := hB
                                    refine W.eq (g2 := F0 m 180 ls [.int r105]) rfl ?_
                                    obtain ⟨hr105, -⟩ := hr105
                                    have hv108 : r105 = eLine l g pe ct1 v3_41 v4_141 (1 : Int32) := hr105.trans (eLine_o hrel93)
                                    refine lv_aload_n hx hb dL_alike_180 rfl (lv_at hl 4 rfl) ?_
                                    refine lv_iload_n hx hb dL_alike_181 rfl (lv_at hl 2 rfl) ?_
                                    refine lv_iload hx hb dL_alike_182 (lv_at hl 0 rfl) ?_
                                    refine lv_iconst (v := 1) hx hb dL_alike_184 (by decide) ?_
                                    have hP := zP_perm pm_2 hP
                                    have hD := zD_perm pm_2 hD
                                    obtain ⟨_, _, -, -, -, hs111⟩ := a8_0 hI100
                                    refine LCV (n := 3) (As := [.int v3_41, .int v4_141, .int 1]) (rest := [.int r105]) (E := ([] ++ dW pAll ad1 ct87)) (F := []) (eLine_s l g pe ct95 v3_41 v4_141 (1 : Int32)  hI100 ) sub_pCl_pAll rfl rfl hP hD hS hA hx hb hml hown hg hK hN ⟨by decide, rfl⟩ hs111 mm_872 mm_873 mm_874 mm_52 mm_875 (by decide +kernel) ⟨(Nat.le_of_ble_eq_true rfl), (Nat.le_of_ble_eq_true rfl)⟩ rfl (Nat.le_of_ble_eq_true rfl) dL_alike_185 (Nat.le_of_ble_eq_true rfl) (Nat.le_of_ble_eq_true rfl) hl.1 rfl (fun ct109 rrr110 hB hoff112 H locs hP hD hS => ?_)
                                    have hP := zP_perm pm_2.symm hP
                                    have hD := zD_perm pm_2.symm hD
                                    obtain ⟨r110, rfl, hr110, rfl⟩ := hB
                                    refine W.eq (g2 := F0 m 188 ls [.int r110, .int r105]) rfl ?_
                                    obtain ⟨hr110, -⟩ := hr110
                                    have hv113 : r110 = eLine l g pe ct1 v3_41 v4_141 (1 : Int32) := hr110.trans (eLine_o hrel101)
                                    refine lv_icmp_ne (tgt := 214) hx hb dL_alike_188 (by decide) (fun c114 => ?_) (fun c114 => ?_)
                                    · skip
                                      have c114 : ¬ (r105.toInt = r110.toInt) := fun q => c114 ((z_eq rfl rfl).mpr q)
                                      exact absurd (congrArg Int32.toInt (hv108.trans hv113.symm)) c114
                                    · skip
                                      have c114 : r105.toInt = r110.toInt := (z_eq rfl rfl).mp c114
                                      refine lv_aload_n hx hb dL_alike_191 rfl (lv_at hl 3 rfl) ?_
                                      refine lv_iload_n hx hb dL_alike_192 rfl (lv_at hl 2 rfl) ?_
                                      refine lv_iload hx hb dL_alike_193 (lv_at hl 0 rfl) ?_
                                      refine lv_iconst (v := 0) hx hb dL_alike_195 (by decide) ?_
                                      obtain ⟨_, _, -, -, -, hs117⟩ := a8_0 hI92
                                      refine LCV (n := 3) (As := [.int v3_41, .int v4_141, .int 0]) (rest := []) (E := []) (F := dW pAll ad2 ct95) (f_giving l g pe ct87 v3_41 v4_141 (0 : Int32)  hI92 ) (fun _ h => h) rfl rfl hP hD hS hA hx hb hml hown hg hK hN ⟨by decide, rfl⟩ hs117 mm_877 mm_878 mm_879 mm_52 mm_880 (by decide +kernel) ⟨(Nat.le_of_ble_eq_true rfl), (Nat.le_of_ble_eq_true rfl)⟩ rfl (Nat.le_of_ble_eq_true rfl) dL_alike_196 (Nat.le_of_ble_eq_true rfl) (Nat.le_of_ble_eq_true rfl) hl.1 rfl (fun ct115 rrr116 hB hoff118 H locs hP hD hS => ?_)
                                      obtain ⟨r116, rfl, hr116, hI120, hcf119⟩ := hB
                                      have hrel121 : ∀ q, ¬ dIn pM q → ct115 q = ct1 q := fun q hq => (hcf119 q hq).trans (hrel93 q hq)
                                      refine W.eq (g2 := F0 m 199 ls [.int r116]) rfl ?_
                                      obtain ⟨hr116, -⟩ := hr116
                                      have hv122 : r116 = qGvg l g pe ct1 v3_41 v4_141 (0 : Int32) := hr116.trans (qGvg_o hrel93 (gix_rg hI1))
                                      refine lv_aload_n hx hb dL_alike_199 rfl (lv_at hl 4 rfl) ?_
                                      refine lv_iload_n hx hb dL_alike_200 rfl (lv_at hl 2 rfl) ?_
                                      refine lv_iload hx hb dL_alike_201 (lv_at hl 0 rfl) ?_
                                      refine lv_iconst (v := 0) hx hb dL_alike_203 (by decide) ?_
                                      have hP := zP_perm pm_2 hP
                                      have hD := zD_perm pm_2 hD
                                      obtain ⟨_, _, -, -, -, hs125⟩ := a8_0 hI100
                                      refine LCV (n := 3) (As := [.int v3_41, .int v4_141, .int 0]) (rest := [.int r116]) (E := ([] ++ dW pAll ad1 ct115)) (F := []) (f_giving l g pe ct95 v3_41 v4_141 (0 : Int32)  hI100 ) (fun _ h => h) rfl rfl hP hD hS hA hx hb hml hown hg hK hN ⟨by decide, rfl⟩ hs125 mm_877 mm_878 mm_879 mm_52 mm_880 (by decide +kernel) ⟨(Nat.le_of_ble_eq_true rfl), (Nat.le_of_ble_eq_true rfl)⟩ rfl (Nat.le_of_ble_eq_true rfl) dL_alike_204 (Nat.le_of_ble_eq_true rfl) (Nat.le_of_ble_eq_true rfl) hl.1 rfl (fun ct123 rrr124 hB hoff126 H locs hP hD hS => ?_)
                                      have hP := zP_perm pm_2.symm hP
                                      have hD := zD_perm pm_2.symm hD
                                      obtain ⟨r124, rfl, hr124, hI128, hcf127⟩ := hB
                                      have hrel129 : ∀ q, ¬ dIn pM q → ct123 q = ct1 q := fun q hq => (hcf127 q hq).trans (hrel101 q hq)
                                      refine W.eq (g2 := F0 m 207 ls [.int r124, .int r116]) rfl ?_
                                      obtain ⟨hr124, -⟩ := hr124
                                      have hv130 : r124 = qGvg l g pe ct1 v3_41 v4_141 (0 : Int32) := hr124.trans (qGvg_o hrel101 (gix_rg hI1))
                                      refine lv_icmp_ne (tgt := 214) hx hb dL_alike_207 (by decide) (fun c131 => ?_) (fun c131 => ?_)
                                      · skip
                                        have c131 : ¬ (r116.toInt = r124.toInt) := fun q => c131 ((z_eq rfl rfl).mpr q)
                                        exact absurd (congrArg Int32.toInt (hv122.trans hv130.symm)) c131
                                      · skip
                                        have c131 : r116.toInt = r124.toInt := (z_eq rfl rfl).mp c131
                                        refine lv_iconst (v := 1) hx hb dL_alike_210 (by decide) ?_
                                        refine lv_goto (tgt := 215) hx hb dL_alike_211 (by decide) ?_
                                        refine lv_istore_n (lv' := [(2, .int 1), (4, .int v4_141), (3, .int v3_41), (0, .ref (ad1 0)), (1, .ref (ad2 0))]) hx hb dL_alike_215 rfl hl (by decide) rfl (fun ls hl => ?_)
                                        obtain ⟨x132, ex132⟩ : ∃ y : Int32, y = v4_141 + 1 := ⟨_, rfl⟩
                                        have tx132 : x132.toInt = v4_141.toInt + 1 := by rw [ex132]; exact z_add rfl (by decide : (1 : Int32).toInt = 1) (by omega) (by omega)
                                        refine lv_iinc (v := x132) (lv' := [(4, .int x132), (2, .int 1), (3, .int v3_41), (0, .ref (ad1 0)), (1, .ref (ad2 0))]) hx hb dL_alike_216 hl (k := 1) rfl (by rw [ex132]; rfl) (by decide) rfl (fun ls hl => ?_)
                                        refine lv_goto (tgt := 141) hx hb dL_alike_219 (by decide) ?_
                                        exact ih141 x132 ct115 ct123 _ _ ls (by omega) (by first | omega | decide) hI120 hrel121 hI128 hrel129 hP hD hS (lv_sub hl [0, 1, 2, 3, 4] rfl)
                          exact loop141 ((5 - (0 : Int32).toInt : Int).toNat + 1) (0 : Int32) ct56 ct64 _ _ ls (by omega) (by first | omega | decide) hI61 hrel62 hI69 hrel70 hP hD hS (lv_sub hl [0, 1, 2, 3, 4] rfl)
        exact loop41 ((2 - (0 : Int32).toInt : Int).toNat + 1) (0 : Int32) ct0_4 ct1_4 _ _ ls (by omega) (by first | omega | decide) hI0_4 hr0_4 hI1_4 hr1_4 hP hD hS (lv_sub hl [0, 1, 2, 3] rfl)
      · skip
        have c1 : ¬ (6 ≤ v3_4.toInt) := fun q => c1 ((z_le (by decide : (6 : Int32).toInt = 6) rfl).mpr q)
        refine lv_iload_n hx hb dL_alike_10 rfl (lv_at hl 1 rfl) ?_
        refine lv_if_eq (tgt := 31) hx hb dL_alike_11 (by decide) (fun c133 => ?_) (fun c133 => ?_)
        · skip
          exact absurd c133 (by decide)
        · skip
          refine lv_aload_n hx hb dL_alike_14 rfl (lv_at hl 2 rfl) ?_
          refine lv_iload_n hx hb dL_alike_15 rfl (lv_at hl 0 rfl) ?_
          obtain ⟨_, _, -, -, -, hs136⟩ := a8_0 hI0_4
          refine LCV (n := 1) (As := [.int v3_4]) (rest := []) (E := []) (F := dW pAll ad2 ct1_4) (eCount_s l g pe ct0_4 v3_4  hI0_4 ) sub_pCl_pAll rfl rfl hP hD hS hA hx hb hml hown hg hK hN ⟨by decide, rfl⟩ hs136 mm_851 mm_852 mm_853 mm_52 mm_854 (by decide +kernel) ⟨(Nat.le_of_ble_eq_true rfl), (Nat.le_of_ble_eq_true rfl)⟩ rfl (Nat.le_of_ble_eq_true rfl) dL_alike_16 (Nat.le_of_ble_eq_true rfl) (Nat.le_of_ble_eq_true rfl) hl.1 rfl (fun ct134 rrr135 hB hoff137 H locs hP hD hS => ?_)
          obtain ⟨r135, rfl, hr135, rfl⟩ := hB
          refine W.eq (g2 := F0 m 19 ls [.int r135]) rfl ?_
          obtain ⟨hr135, -⟩ := hr135
          have hv138 : r135 = eCount l g pe ct1 v3_4 := hr135.trans (eCount_o hr0_4)
          refine lv_aload_n hx hb dL_alike_19 rfl (lv_at hl 3 rfl) ?_
          refine lv_iload_n hx hb dL_alike_20 rfl (lv_at hl 0 rfl) ?_
          have hP := zP_perm pm_2 hP
          have hD := zD_perm pm_2 hD
          obtain ⟨_, _, -, -, -, hs141⟩ := a8_0 hI1_4
          refine LCV (n := 1) (As := [.int v3_4]) (rest := [.int r135]) (E := ([] ++ dW pAll ad1 ct0_4)) (F := []) (eCount_s l g pe ct1_4 v3_4  hI1_4 ) sub_pCl_pAll rfl rfl hP hD hS hA hx hb hml hown hg hK hN ⟨by decide, rfl⟩ hs141 mm_851 mm_852 mm_853 mm_52 mm_854 (by decide +kernel) ⟨(Nat.le_of_ble_eq_true rfl), (Nat.le_of_ble_eq_true rfl)⟩ rfl (Nat.le_of_ble_eq_true rfl) dL_alike_21 (Nat.le_of_ble_eq_true rfl) (Nat.le_of_ble_eq_true rfl) hl.1 rfl (fun ct139 rrr140 hB hoff142 H locs hP hD hS => ?_)
          have hP := zP_perm pm_2.symm hP
          have hD := zD_perm pm_2.symm hD
          obtain ⟨r140, rfl, hr140, rfl⟩ := hB
          refine W.eq (g2 := F0 m 24 ls [.int r140, .int r135]) rfl ?_
          obtain ⟨hr140, -⟩ := hr140
          have hv143 : r140 = eCount l g pe ct1 v3_4 := hr140.trans (eCount_o hr1_4)
          refine lv_icmp_ne (tgt := 31) hx hb dL_alike_24 (by decide) (fun c144 => ?_) (fun c144 => ?_)
          · skip
            have c144 : ¬ (r135.toInt = r140.toInt) := fun q => c144 ((z_eq rfl rfl).mpr q)
            exact absurd (congrArg Int32.toInt (hv138.trans hv143.symm)) c144
          · skip
            have c144 : r135.toInt = r140.toInt := (z_eq rfl rfl).mp c144
            refine lv_iconst (v := 1) hx hb dL_alike_27 (by decide) ?_
            refine lv_goto (tgt := 32) hx hb dL_alike_28 (by decide) ?_
            refine lv_istore_n (lv' := [(2, .int 1), (3, .int v3_4), (0, .ref (ad1 0)), (1, .ref (ad2 0))]) hx hb dL_alike_32 rfl hl (by decide) rfl (fun ls hl => ?_)
            obtain ⟨x145, ex145⟩ : ∃ y : Int32, y = v3_4 + 1 := ⟨_, rfl⟩
            have tx145 : x145.toInt = v3_4.toInt + 1 := by rw [ex145]; exact z_add rfl (by decide : (1 : Int32).toInt = 1) (by omega) (by omega)
            refine lv_iinc (v := x145) (lv' := [(3, .int x145), (2, .int 1), (0, .ref (ad1 0)), (1, .ref (ad2 0))]) hx hb dL_alike_33 hl (k := 1) rfl (by rw [ex145]; rfl) (by decide) rfl (fun ls hl => ?_)
            refine lv_goto (tgt := 4) hx hb dL_alike_36 (by decide) ?_
            exact ih4 x145 ct0_4 ct1_4 _ _ ls (by omega) (by first | omega | decide) hI0_4 hr0_4 hI1_4 hr1_4 hP hD hS (lv_sub hl [0, 1, 2, 3] rfl)
  exact loop4 ((6 - (0 : Int32).toInt : Int).toNat + 1) (0 : Int32) ct1 ct2 _ _ ls (by omega) (by first | omega | decide) hI1 (fun _ _ => rfl) hI2 hof hP hD hS (lv_sub hl [0, 1, 2, 3] rfl)
